set_option maxHeartbeats 4000000 in
set_option maxRecDepth 100000 in
theorem mp_case_49 {E : mp_E} {X : mp_X} {b : Nat} {xs : Nat → Int32} (hL : mp_Lw E X b 6 xs) (q1 q2 : Nat) (bb mm : Nat → Nat) (vs ln wd : Nat → Int32) (hln : ∀ j, j < 4 → ln j = -1) (hwd : ∀ j, j < 4 → wd j = -1) : mp_W E X 4 1756 [(3, .int 0), (2, .ref q2), (1, .ref q1), (0, .ref b)] [] (mp_w0 E q1 q2 bb mm vs ln wd) 84 11441 := by
  have hF : mp_F E X (RL, code, 4, (2048, 600000, 7302250, 84000), ret, false) := hL.1
  show mp_W E X 4 1756 [(3, .int 0), (2, .ref q2), (1, .ref q1), (0, .ref b)] [] (mp_w0 E q1 q2 bb mm vs ln wd) 84 11441
  refine mp_run hF mp_tabL_ok [mp_i (.aload_n 1), mp_i (.aload_n 0), mp_i (.iload_n 3), mp_c (.iconst 1) 1, mp_i .iadd] (by decide +kernel) ?_
  intro z1 h2
  obtain rfl : z1 = 1 := h2.trans (by decide)
  show mp_W E X 4 1761 [(3, .int 0), (2, .ref q2), (1, .ref q1), (0, .ref b)] [.int 1, .ref b, .ref q1] (mp_w0 E q1 q2 bb mm vs ln wd) 84 11441
  refine mp_lsld hL 1 (by decide) (by decide) (by decide) (by decide +kernel) ?_
  show mp_W E X 4 1762 [(3, .int 0), (2, .ref q2), (1, .ref q1), (0, .ref b)] [.int (xs 1), .ref q1] (mp_w0 E q1 q2 bb mm vs ln wd) 84 11441
  refine mp_run hF mp_tabL_ok [mp_i (.aload_n 0), mp_i (.iload_n 3), mp_c (.iconst 2) 2, mp_i .iadd] (by decide +kernel) ?_
  intro z3 h4
  obtain rfl : z3 = 2 := h4.trans (by decide)
  show mp_W E X 4 1766 [(3, .int 0), (2, .ref q2), (1, .ref q1), (0, .ref b)] [.int 2, .ref b, .int (xs 1), .ref q1] (mp_w0 E q1 q2 bb mm vs ln wd) 84 11441
  refine mp_lsld hL 2 (by decide) (by decide) (by decide) (by decide +kernel) ?_
  show mp_W E X 4 1767 [(3, .int 0), (2, .ref q2), (1, .ref q1), (0, .ref b)] [.int (xs 2), .int (xs 1), .ref q1] (mp_w0 E q1 q2 bb mm vs ln wd) 84 11441
  refine mp_run hF mp_tabL_ok [mp_i (.aload_n 0), mp_i (.iload_n 3), mp_c (.iconst 3) 3, mp_i .iadd] (by decide +kernel) ?_
  intro z5 h6
  obtain rfl : z5 = 3 := h6.trans (by decide)
  show mp_W E X 4 1771 [(3, .int 0), (2, .ref q2), (1, .ref q1), (0, .ref b)] [.int 3, .ref b, .int (xs 2), .int (xs 1), .ref q1] (mp_w0 E q1 q2 bb mm vs ln wd) 84 11441
  refine mp_lsld hL 3 (by decide) (by decide) (by decide) (by decide +kernel) ?_
  show mp_W E X 4 1772 [(3, .int 0), (2, .ref q2), (1, .ref q1), (0, .ref b)] [.int (xs 3), .int (xs 2), .int (xs 1), .ref q1] (mp_w0 E q1 q2 bb mm vs ln wd) 84 11441
  refine mp_callV hF (As := [.int (xs 1), .int (xs 2), .int (xs 3)]) (rest := []) (wr := [(q2, .inr (10, [.int 0, .ref (mm 1), .ref (mm 2), .ref (mm 3), .ref (mm 4), .ref (mm 5), .int 0, .int 0, .int 0, .int 0, .int 0, .long 0, .int 0, .int 0, .int 0, .int (-1), .ref (mm 6), .ref (mm 7), .ref (mm 8), .ref (mm 9), .ref (mm 10), .ref (mm 11), .ref (mm 12), .ref (mm 13), .int 0, .ref (mm 14), .ref (mm 15), .ref (mm 16), .ref (mm 17), .int 0, .int 0, .int 0, .ref (mm 18), .ref (mm 19), .int 0, .int 0, .ref (mm 20), .ref (mm 21), .ref (mm 22), .int 0, .int 0, .int 0, .int 0, .ref (mm 23), .ref (mm 24), .ref (mm 25), .int 0])), ((mm 7), .inl (E.2.2 0, 25, .inl (fun _ => 0)))]) (aX9_often_158 E q1 (bb 16) (bb 17) (bb 1) (bb 36) (bb 37) (bb 40) (bb 46) (bb 49) (bb 52) (bb 54) (bb 30) (bb 31) (bb 32) (bb 33) (bb 34) (bb 35) (bb 18) (bb 19) (bb 20) (bb 21) (bb 22) (bb 23) (bb 24) (bb 25) (bb 26) (bb 27) (bb 28) (bb 29) (xs 1) (xs 2) (xs 3)) mp_lkL_216 0 rfl [0, 16, 17] [58, 65] rfl rfl rfl rfl rfl ⟨(Nat.le_of_ble_eq_true rfl), (Nat.le_of_ble_eq_true rfl), (Nat.le_of_ble_eq_true rfl), (Nat.le_of_ble_eq_true rfl)⟩ (Nat.le_of_ble_eq_true rfl) (by decide +kernel) (fun v7 w8 h9 => ?_)
  obtain ⟨rfl, rfl⟩ := h9
  show mp_W E X 4 1775 [(3, .int 0), (2, .ref q2), (1, .ref q1), (0, .ref b)] [.int (-2)] [(q2, .inr (10, [.int 0, .ref (mm 1), .ref (mm 2), .ref (mm 3), .ref (mm 4), .ref (mm 5), .int 0, .int 0, .int 0, .int 0, .int 0, .long 0, .int 0, .int 0, .int 0, .int (-1), .ref (mm 6), .ref (mm 7), .ref (mm 8), .ref (mm 9), .ref (mm 10), .ref (mm 11), .ref (mm 12), .ref (mm 13), .int 0, .ref (mm 14), .ref (mm 15), .ref (mm 16), .ref (mm 17), .int 0, .int 0, .int 0, .ref (mm 18), .ref (mm 19), .int 0, .int 0, .ref (mm 20), .ref (mm 21), .ref (mm 22), .int 0, .int 0, .int 0, .int 0, .ref (mm 23), .ref (mm 24), .ref (mm 25), .int 0])), ((mm 7), .inl (E.2.2 0, 25, .inl (fun _ => 0)))] 84 11441
  refine mp_run hF mp_tabL_ok [mp_i (.aload_n 2), mp_i (.aload_n 0), mp_i (.iload_n 3), mp_c (.iconst 1) 1, mp_i .iadd] (by decide +kernel) ?_
  intro z10 h11
  obtain rfl : z10 = 1 := h11.trans (by decide)
  show mp_W E X 4 1780 [(3, .int 0), (2, .ref q2), (1, .ref q1), (0, .ref b)] [.int 1, .ref b, .ref q2, .int (-2)] [(q2, .inr (10, [.int 0, .ref (mm 1), .ref (mm 2), .ref (mm 3), .ref (mm 4), .ref (mm 5), .int 0, .int 0, .int 0, .int 0, .int 0, .long 0, .int 0, .int 0, .int 0, .int (-1), .ref (mm 6), .ref (mm 7), .ref (mm 8), .ref (mm 9), .ref (mm 10), .ref (mm 11), .ref (mm 12), .ref (mm 13), .int 0, .ref (mm 14), .ref (mm 15), .ref (mm 16), .ref (mm 17), .int 0, .int 0, .int 0, .ref (mm 18), .ref (mm 19), .int 0, .int 0, .ref (mm 20), .ref (mm 21), .ref (mm 22), .int 0, .int 0, .int 0, .int 0, .ref (mm 23), .ref (mm 24), .ref (mm 25), .int 0])), ((mm 7), .inl (E.2.2 0, 25, .inl (fun _ => 0)))] 84 11441
  refine mp_lsld hL 1 (by decide) (by decide) (by decide) (by decide +kernel) ?_
  show mp_W E X 4 1781 [(3, .int 0), (2, .ref q2), (1, .ref q1), (0, .ref b)] [.int (xs 1), .ref q2, .int (-2)] [(q2, .inr (10, [.int 0, .ref (mm 1), .ref (mm 2), .ref (mm 3), .ref (mm 4), .ref (mm 5), .int 0, .int 0, .int 0, .int 0, .int 0, .long 0, .int 0, .int 0, .int 0, .int (-1), .ref (mm 6), .ref (mm 7), .ref (mm 8), .ref (mm 9), .ref (mm 10), .ref (mm 11), .ref (mm 12), .ref (mm 13), .int 0, .ref (mm 14), .ref (mm 15), .ref (mm 16), .ref (mm 17), .int 0, .int 0, .int 0, .ref (mm 18), .ref (mm 19), .int 0, .int 0, .ref (mm 20), .ref (mm 21), .ref (mm 22), .int 0, .int 0, .int 0, .int 0, .ref (mm 23), .ref (mm 24), .ref (mm 25), .int 0])), ((mm 7), .inl (E.2.2 0, 25, .inl (fun _ => 0)))] 84 11441
  refine mp_run hF mp_tabL_ok [mp_i (.aload_n 0), mp_i (.iload_n 3), mp_c (.iconst 2) 2, mp_i .iadd] (by decide +kernel) ?_
  intro z12 h13
  obtain rfl : z12 = 2 := h13.trans (by decide)
  show mp_W E X 4 1785 [(3, .int 0), (2, .ref q2), (1, .ref q1), (0, .ref b)] [.int 2, .ref b, .int (xs 1), .ref q2, .int (-2)] [(q2, .inr (10, [.int 0, .ref (mm 1), .ref (mm 2), .ref (mm 3), .ref (mm 4), .ref (mm 5), .int 0, .int 0, .int 0, .int 0, .int 0, .long 0, .int 0, .int 0, .int 0, .int (-1), .ref (mm 6), .ref (mm 7), .ref (mm 8), .ref (mm 9), .ref (mm 10), .ref (mm 11), .ref (mm 12), .ref (mm 13), .int 0, .ref (mm 14), .ref (mm 15), .ref (mm 16), .ref (mm 17), .int 0, .int 0, .int 0, .ref (mm 18), .ref (mm 19), .int 0, .int 0, .ref (mm 20), .ref (mm 21), .ref (mm 22), .int 0, .int 0, .int 0, .int 0, .ref (mm 23), .ref (mm 24), .ref (mm 25), .int 0])), ((mm 7), .inl (E.2.2 0, 25, .inl (fun _ => 0)))] 84 11441
  refine mp_lsld hL 2 (by decide) (by decide) (by decide) (by decide +kernel) ?_
  show mp_W E X 4 1786 [(3, .int 0), (2, .ref q2), (1, .ref q1), (0, .ref b)] [.int (xs 2), .int (xs 1), .ref q2, .int (-2)] [(q2, .inr (10, [.int 0, .ref (mm 1), .ref (mm 2), .ref (mm 3), .ref (mm 4), .ref (mm 5), .int 0, .int 0, .int 0, .int 0, .int 0, .long 0, .int 0, .int 0, .int 0, .int (-1), .ref (mm 6), .ref (mm 7), .ref (mm 8), .ref (mm 9), .ref (mm 10), .ref (mm 11), .ref (mm 12), .ref (mm 13), .int 0, .ref (mm 14), .ref (mm 15), .ref (mm 16), .ref (mm 17), .int 0, .int 0, .int 0, .ref (mm 18), .ref (mm 19), .int 0, .int 0, .ref (mm 20), .ref (mm 21), .ref (mm 22), .int 0, .int 0, .int 0, .int 0, .ref (mm 23), .ref (mm 24), .ref (mm 25), .int 0])), ((mm 7), .inl (E.2.2 0, 25, .inl (fun _ => 0)))] 84 11441
  refine mp_run hF mp_tabL_ok [mp_i (.aload_n 0), mp_i (.iload_n 3), mp_c (.iconst 3) 3, mp_i .iadd] (by decide +kernel) ?_
  intro z14 h15
  obtain rfl : z14 = 3 := h15.trans (by decide)
  show mp_W E X 4 1790 [(3, .int 0), (2, .ref q2), (1, .ref q1), (0, .ref b)] [.int 3, .ref b, .int (xs 2), .int (xs 1), .ref q2, .int (-2)] [(q2, .inr (10, [.int 0, .ref (mm 1), .ref (mm 2), .ref (mm 3), .ref (mm 4), .ref (mm 5), .int 0, .int 0, .int 0, .int 0, .int 0, .long 0, .int 0, .int 0, .int 0, .int (-1), .ref (mm 6), .ref (mm 7), .ref (mm 8), .ref (mm 9), .ref (mm 10), .ref (mm 11), .ref (mm 12), .ref (mm 13), .int 0, .ref (mm 14), .ref (mm 15), .ref (mm 16), .ref (mm 17), .int 0, .int 0, .int 0, .ref (mm 18), .ref (mm 19), .int 0, .int 0, .ref (mm 20), .ref (mm 21), .ref (mm 22), .int 0, .int 0, .int 0, .int 0, .ref (mm 23), .ref (mm 24), .ref (mm 25), .int 0])), ((mm 7), .inl (E.2.2 0, 25, .inl (fun _ => 0)))] 84 11441
  refine mp_lsld hL 3 (by decide) (by decide) (by decide) (by decide +kernel) ?_
  show mp_W E X 4 1791 [(3, .int 0), (2, .ref q2), (1, .ref q1), (0, .ref b)] [.int (xs 3), .int (xs 2), .int (xs 1), .ref q2, .int (-2)] [(q2, .inr (10, [.int 0, .ref (mm 1), .ref (mm 2), .ref (mm 3), .ref (mm 4), .ref (mm 5), .int 0, .int 0, .int 0, .int 0, .int 0, .long 0, .int 0, .int 0, .int 0, .int (-1), .ref (mm 6), .ref (mm 7), .ref (mm 8), .ref (mm 9), .ref (mm 10), .ref (mm 11), .ref (mm 12), .ref (mm 13), .int 0, .ref (mm 14), .ref (mm 15), .ref (mm 16), .ref (mm 17), .int 0, .int 0, .int 0, .ref (mm 18), .ref (mm 19), .int 0, .int 0, .ref (mm 20), .ref (mm 21), .ref (mm 22), .int 0, .int 0, .int 0, .int 0, .ref (mm 23), .ref (mm 24), .ref (mm 25), .int 0])), ((mm 7), .inl (E.2.2 0, 25, .inl (fun _ => 0)))] 84 11441
  refine mp_callV hF (As := [.int (xs 1), .int (xs 2), .int (xs 3)]) (rest := [.int (-2)]) (wr := []) (aX10_often_159 E q2 (mm 7) (mm 1) (mm 2) (mm 3) (mm 4) (mm 5) (mm 6) (mm 8) (mm 9) (mm 10) (mm 11) (mm 12) (mm 13) (mm 14) (mm 15) (mm 16) (mm 17) (mm 18) (mm 19) (mm 20) (mm 21) (mm 22) (mm 23) (mm 24) (mm 25) (xs 1) (xs 2) (xs 3)) mp_lkL_219 0 rfl [0, 1] [] rfl rfl rfl rfl rfl ⟨(Nat.le_of_ble_eq_true rfl), (Nat.le_of_ble_eq_true rfl), (Nat.le_of_ble_eq_true rfl), (Nat.le_of_ble_eq_true rfl)⟩ (Nat.le_of_ble_eq_true rfl) (by decide +kernel) (fun v16 w17 h18 => ?_)
  obtain ⟨rfl, rfl⟩ := h18
  show mp_W E X 4 1794 [(3, .int 0), (2, .ref q2), (1, .ref q1), (0, .ref b)] [.int (-2), .int (-2)] [] 84 11441
  refine mp_run hF mp_tabL_ok [mp_h (.if_icmp .eq 425) [2219]] (by decide +kernel) ?_
  refine And.intro (fun _ => ?_) (fun c19 => absurd c19 (by decide))
  show mp_W E X 4 2219 [(3, .int 0), (2, .ref q2), (1, .ref q1), (0, .ref b)] [] [] 84 11441
  exact mp_sub [3, 0] rfl [] rfl rfl (mp_lw_next hL (Nat.le_of_ble_eq_true rfl) (Nat.le_of_ble_eq_true rfl))

set_option maxHeartbeats 4000000 in
set_option maxRecDepth 100000 in
theorem mp_case_50 {E : mp_E} {X : mp_X} {b : Nat} {xs : Nat → Int32} (hL : mp_Lw E X b 6 xs) (q1 q2 : Nat) (bb mm : Nat → Nat) (vs ln wd : Nat → Int32) (hln : ∀ j, j < 4 → ln j = -1) (hwd : ∀ j, j < 4 → wd j = -1) : mp_W E X 4 1799 [(3, .int 0), (2, .ref q2), (1, .ref q1), (0, .ref b)] [] (mp_w0 E q1 q2 bb mm vs ln wd) 84 11441 := by
  have hF : mp_F E X (RL, code, 4, (2048, 600000, 7302250, 84000), ret, false) := hL.1
  show mp_W E X 4 1799 [(3, .int 0), (2, .ref q2), (1, .ref q1), (0, .ref b)] [] (mp_w0 E q1 q2 bb mm vs ln wd) 84 11441
  refine mp_run hF mp_tabL_ok [mp_i (.aload_n 1), mp_i (.aload_n 0), mp_i (.iload_n 3), mp_c (.iconst 1) 1, mp_i .iadd] (by decide +kernel) ?_
  intro z1 h2
  obtain rfl : z1 = 1 := h2.trans (by decide)
  show mp_W E X 4 1804 [(3, .int 0), (2, .ref q2), (1, .ref q1), (0, .ref b)] [.int 1, .ref b, .ref q1] (mp_w0 E q1 q2 bb mm vs ln wd) 84 11441
  refine mp_lsld hL 1 (by decide) (by decide) (by decide) (by decide +kernel) ?_
  show mp_W E X 4 1805 [(3, .int 0), (2, .ref q2), (1, .ref q1), (0, .ref b)] [.int (xs 1), .ref q1] (mp_w0 E q1 q2 bb mm vs ln wd) 84 11441
  refine mp_run hF mp_tabL_ok [mp_i (.aload_n 0), mp_i (.iload_n 3), mp_c (.iconst 2) 2, mp_i .iadd] (by decide +kernel) ?_
  intro z3 h4
  obtain rfl : z3 = 2 := h4.trans (by decide)
  show mp_W E X 4 1809 [(3, .int 0), (2, .ref q2), (1, .ref q1), (0, .ref b)] [.int 2, .ref b, .int (xs 1), .ref q1] (mp_w0 E q1 q2 bb mm vs ln wd) 84 11441
  refine mp_lsld hL 2 (by decide) (by decide) (by decide) (by decide +kernel) ?_
  show mp_W E X 4 1810 [(3, .int 0), (2, .ref q2), (1, .ref q1), (0, .ref b)] [.int (xs 2), .int (xs 1), .ref q1] (mp_w0 E q1 q2 bb mm vs ln wd) 84 11441
  refine mp_run hF mp_tabL_ok [mp_i (.aload_n 0), mp_i (.iload_n 3), mp_c (.iconst 3) 3, mp_i .iadd] (by decide +kernel) ?_
  intro z5 h6
  obtain rfl : z5 = 3 := h6.trans (by decide)
  show mp_W E X 4 1814 [(3, .int 0), (2, .ref q2), (1, .ref q1), (0, .ref b)] [.int 3, .ref b, .int (xs 2), .int (xs 1), .ref q1] (mp_w0 E q1 q2 bb mm vs ln wd) 84 11441
  refine mp_lsld hL 3 (by decide) (by decide) (by decide) (by decide +kernel) ?_
  show mp_W E X 4 1815 [(3, .int 0), (2, .ref q2), (1, .ref q1), (0, .ref b)] [.int (xs 3), .int (xs 2), .int (xs 1), .ref q1] (mp_w0 E q1 q2 bb mm vs ln wd) 84 11441
  refine mp_run hF mp_tabL_ok [mp_i (.aload_n 0), mp_i (.iload_n 3), mp_c (.iconst 4) 4, mp_i .iadd] (by decide +kernel) ?_
  intro z7 h8
  obtain rfl : z7 = 4 := h8.trans (by decide)
  show mp_W E X 4 1819 [(3, .int 0), (2, .ref q2), (1, .ref q1), (0, .ref b)] [.int 4, .ref b, .int (xs 3), .int (xs 2), .int (xs 1), .ref q1] (mp_w0 E q1 q2 bb mm vs ln wd) 84 11441
  refine mp_lsld hL 4 (by decide) (by decide) (by decide) (by decide +kernel) ?_
  show mp_W E X 4 1820 [(3, .int 0), (2, .ref q2), (1, .ref q1), (0, .ref b)] [.int (xs 4), .int (xs 3), .int (xs 2), .int (xs 1), .ref q1] (mp_w0 E q1 q2 bb mm vs ln wd) 84 11441
  refine mp_callV hF (As := [.int (xs 1), .int (xs 2), .int (xs 3), .int (xs 4)]) (rest := []) (wr := [(q2, .inr (10, [.int 0, .ref (mm 1), .ref (mm 2), .ref (mm 3), .ref (mm 4), .ref (mm 5), .int 0, .int 0, .int 0, .int 0, .int 0, .long 0, .int 0, .int 0, .int 0, .int (-1), .ref (mm 6), .ref (mm 7), .ref (mm 8), .ref (mm 9), .ref (mm 10), .ref (mm 11), .ref (mm 12), .ref (mm 13), .int 0, .ref (mm 14), .ref (mm 15), .ref (mm 16), .ref (mm 17), .int 0, .int 0, .int 0, .ref (mm 18), .ref (mm 19), .int 0, .int 0, .ref (mm 20), .ref (mm 21), .ref (mm 22), .int 0, .int 0, .int 0, .int 0, .ref (mm 23), .ref (mm 24), .ref (mm 25), .int 0])), ((mm 7), .inl (E.2.2 0, 25, .inl (fun _ => 0)))]) (aX9_lucky_160 E q1 (bb 16) (bb 17) (bb 1) (bb 36) (bb 37) (bb 40) (bb 46) (bb 49) (bb 52) (bb 54) (bb 30) (bb 31) (bb 32) (bb 33) (bb 34) (bb 35) (bb 18) (bb 19) (bb 20) (bb 21) (bb 22) (bb 23) (bb 24) (bb 25) (bb 26) (bb 27) (bb 28) (bb 29) (xs 1) (xs 2) (xs 3) (xs 4)) mp_lkL_220 0 rfl [0, 16, 17] [58, 65] rfl rfl rfl rfl rfl ⟨(Nat.le_of_ble_eq_true rfl), (Nat.le_of_ble_eq_true rfl), (Nat.le_of_ble_eq_true rfl), (Nat.le_of_ble_eq_true rfl)⟩ (Nat.le_of_ble_eq_true rfl) (by decide +kernel) (fun v9 w10 h11 => ?_)
  obtain ⟨rfl, rfl⟩ := h11
  show mp_W E X 4 1823 [(3, .int 0), (2, .ref q2), (1, .ref q1), (0, .ref b)] [.int (-2)] [(q2, .inr (10, [.int 0, .ref (mm 1), .ref (mm 2), .ref (mm 3), .ref (mm 4), .ref (mm 5), .int 0, .int 0, .int 0, .int 0, .int 0, .long 0, .int 0, .int 0, .int 0, .int (-1), .ref (mm 6), .ref (mm 7), .ref (mm 8), .ref (mm 9), .ref (mm 10), .ref (mm 11), .ref (mm 12), .ref (mm 13), .int 0, .ref (mm 14), .ref (mm 15), .ref (mm 16), .ref (mm 17), .int 0, .int 0, .int 0, .ref (mm 18), .ref (mm 19), .int 0, .int 0, .ref (mm 20), .ref (mm 21), .ref (mm 22), .int 0, .int 0, .int 0, .int 0, .ref (mm 23), .ref (mm 24), .ref (mm 25), .int 0])), ((mm 7), .inl (E.2.2 0, 25, .inl (fun _ => 0)))] 84 11441
  refine mp_run hF mp_tabL_ok [mp_i (.aload_n 2), mp_i (.aload_n 0), mp_i (.iload_n 3), mp_c (.iconst 1) 1, mp_i .iadd] (by decide +kernel) ?_
  intro z12 h13
  obtain rfl : z12 = 1 := h13.trans (by decide)
  show mp_W E X 4 1828 [(3, .int 0), (2, .ref q2), (1, .ref q1), (0, .ref b)] [.int 1, .ref b, .ref q2, .int (-2)] [(q2, .inr (10, [.int 0, .ref (mm 1), .ref (mm 2), .ref (mm 3), .ref (mm 4), .ref (mm 5), .int 0, .int 0, .int 0, .int 0, .int 0, .long 0, .int 0, .int 0, .int 0, .int (-1), .ref (mm 6), .ref (mm 7), .ref (mm 8), .ref (mm 9), .ref (mm 10), .ref (mm 11), .ref (mm 12), .ref (mm 13), .int 0, .ref (mm 14), .ref (mm 15), .ref (mm 16), .ref (mm 17), .int 0, .int 0, .int 0, .ref (mm 18), .ref (mm 19), .int 0, .int 0, .ref (mm 20), .ref (mm 21), .ref (mm 22), .int 0, .int 0, .int 0, .int 0, .ref (mm 23), .ref (mm 24), .ref (mm 25), .int 0])), ((mm 7), .inl (E.2.2 0, 25, .inl (fun _ => 0)))] 84 11441
  refine mp_lsld hL 1 (by decide) (by decide) (by decide) (by decide +kernel) ?_
  show mp_W E X 4 1829 [(3, .int 0), (2, .ref q2), (1, .ref q1), (0, .ref b)] [.int (xs 1), .ref q2, .int (-2)] [(q2, .inr (10, [.int 0, .ref (mm 1), .ref (mm 2), .ref (mm 3), .ref (mm 4), .ref (mm 5), .int 0, .int 0, .int 0, .int 0, .int 0, .long 0, .int 0, .int 0, .int 0, .int (-1), .ref (mm 6), .ref (mm 7), .ref (mm 8), .ref (mm 9), .ref (mm 10), .ref (mm 11), .ref (mm 12), .ref (mm 13), .int 0, .ref (mm 14), .ref (mm 15), .ref (mm 16), .ref (mm 17), .int 0, .int 0, .int 0, .ref (mm 18), .ref (mm 19), .int 0, .int 0, .ref (mm 20), .ref (mm 21), .ref (mm 22), .int 0, .int 0, .int 0, .int 0, .ref (mm 23), .ref (mm 24), .ref (mm 25), .int 0])), ((mm 7), .inl (E.2.2 0, 25, .inl (fun _ => 0)))] 84 11441
  refine mp_run hF mp_tabL_ok [mp_i (.aload_n 0), mp_i (.iload_n 3), mp_c (.iconst 2) 2, mp_i .iadd] (by decide +kernel) ?_
  intro z14 h15
  obtain rfl : z14 = 2 := h15.trans (by decide)
  show mp_W E X 4 1833 [(3, .int 0), (2, .ref q2), (1, .ref q1), (0, .ref b)] [.int 2, .ref b, .int (xs 1), .ref q2, .int (-2)] [(q2, .inr (10, [.int 0, .ref (mm 1), .ref (mm 2), .ref (mm 3), .ref (mm 4), .ref (mm 5), .int 0, .int 0, .int 0, .int 0, .int 0, .long 0, .int 0, .int 0, .int 0, .int (-1), .ref (mm 6), .ref (mm 7), .ref (mm 8), .ref (mm 9), .ref (mm 10), .ref (mm 11), .ref (mm 12), .ref (mm 13), .int 0, .ref (mm 14), .ref (mm 15), .ref (mm 16), .ref (mm 17), .int 0, .int 0, .int 0, .ref (mm 18), .ref (mm 19), .int 0, .int 0, .ref (mm 20), .ref (mm 21), .ref (mm 22), .int 0, .int 0, .int 0, .int 0, .ref (mm 23), .ref (mm 24), .ref (mm 25), .int 0])), ((mm 7), .inl (E.2.2 0, 25, .inl (fun _ => 0)))] 84 11441
  refine mp_lsld hL 2 (by decide) (by decide) (by decide) (by decide +kernel) ?_
  show mp_W E X 4 1834 [(3, .int 0), (2, .ref q2), (1, .ref q1), (0, .ref b)] [.int (xs 2), .int (xs 1), .ref q2, .int (-2)] [(q2, .inr (10, [.int 0, .ref (mm 1), .ref (mm 2), .ref (mm 3), .ref (mm 4), .ref (mm 5), .int 0, .int 0, .int 0, .int 0, .int 0, .long 0, .int 0, .int 0, .int 0, .int (-1), .ref (mm 6), .ref (mm 7), .ref (mm 8), .ref (mm 9), .ref (mm 10), .ref (mm 11), .ref (mm 12), .ref (mm 13), .int 0, .ref (mm 14), .ref (mm 15), .ref (mm 16), .ref (mm 17), .int 0, .int 0, .int 0, .ref (mm 18), .ref (mm 19), .int 0, .int 0, .ref (mm 20), .ref (mm 21), .ref (mm 22), .int 0, .int 0, .int 0, .int 0, .ref (mm 23), .ref (mm 24), .ref (mm 25), .int 0])), ((mm 7), .inl (E.2.2 0, 25, .inl (fun _ => 0)))] 84 11441
  refine mp_run hF mp_tabL_ok [mp_i (.aload_n 0), mp_i (.iload_n 3), mp_c (.iconst 3) 3, mp_i .iadd] (by decide +kernel) ?_
  intro z16 h17
  obtain rfl : z16 = 3 := h17.trans (by decide)
  show mp_W E X 4 1838 [(3, .int 0), (2, .ref q2), (1, .ref q1), (0, .ref b)] [.int 3, .ref b, .int (xs 2), .int (xs 1), .ref q2, .int (-2)] [(q2, .inr (10, [.int 0, .ref (mm 1), .ref (mm 2), .ref (mm 3), .ref (mm 4), .ref (mm 5), .int 0, .int 0, .int 0, .int 0, .int 0, .long 0, .int 0, .int 0, .int 0, .int (-1), .ref (mm 6), .ref (mm 7), .ref (mm 8), .ref (mm 9), .ref (mm 10), .ref (mm 11), .ref (mm 12), .ref (mm 13), .int 0, .ref (mm 14), .ref (mm 15), .ref (mm 16), .ref (mm 17), .int 0, .int 0, .int 0, .ref (mm 18), .ref (mm 19), .int 0, .int 0, .ref (mm 20), .ref (mm 21), .ref (mm 22), .int 0, .int 0, .int 0, .int 0, .ref (mm 23), .ref (mm 24), .ref (mm 25), .int 0])), ((mm 7), .inl (E.2.2 0, 25, .inl (fun _ => 0)))] 84 11441
  refine mp_lsld hL 3 (by decide) (by decide) (by decide) (by decide +kernel) ?_
  show mp_W E X 4 1839 [(3, .int 0), (2, .ref q2), (1, .ref q1), (0, .ref b)] [.int (xs 3), .int (xs 2), .int (xs 1), .ref q2, .int (-2)] [(q2, .inr (10, [.int 0, .ref (mm 1), .ref (mm 2), .ref (mm 3), .ref (mm 4), .ref (mm 5), .int 0, .int 0, .int 0, .int 0, .int 0, .long 0, .int 0, .int 0, .int 0, .int (-1), .ref (mm 6), .ref (mm 7), .ref (mm 8), .ref (mm 9), .ref (mm 10), .ref (mm 11), .ref (mm 12), .ref (mm 13), .int 0, .ref (mm 14), .ref (mm 15), .ref (mm 16), .ref (mm 17), .int 0, .int 0, .int 0, .ref (mm 18), .ref (mm 19), .int 0, .int 0, .ref (mm 20), .ref (mm 21), .ref (mm 22), .int 0, .int 0, .int 0, .int 0, .ref (mm 23), .ref (mm 24), .ref (mm 25), .int 0])), ((mm 7), .inl (E.2.2 0, 25, .inl (fun _ => 0)))] 84 11441
  refine mp_run hF mp_tabL_ok [mp_i (.aload_n 0), mp_i (.iload_n 3), mp_c (.iconst 4) 4, mp_i .iadd] (by decide +kernel) ?_
  intro z18 h19
  obtain rfl : z18 = 4 := h19.trans (by decide)
  show mp_W E X 4 1843 [(3, .int 0), (2, .ref q2), (1, .ref q1), (0, .ref b)] [.int 4, .ref b, .int (xs 3), .int (xs 2), .int (xs 1), .ref q2, .int (-2)] [(q2, .inr (10, [.int 0, .ref (mm 1), .ref (mm 2), .ref (mm 3), .ref (mm 4), .ref (mm 5), .int 0, .int 0, .int 0, .int 0, .int 0, .long 0, .int 0, .int 0, .int 0, .int (-1), .ref (mm 6), .ref (mm 7), .ref (mm 8), .ref (mm 9), .ref (mm 10), .ref (mm 11), .ref (mm 12), .ref (mm 13), .int 0, .ref (mm 14), .ref (mm 15), .ref (mm 16), .ref (mm 17), .int 0, .int 0, .int 0, .ref (mm 18), .ref (mm 19), .int 0, .int 0, .ref (mm 20), .ref (mm 21), .ref (mm 22), .int 0, .int 0, .int 0, .int 0, .ref (mm 23), .ref (mm 24), .ref (mm 25), .int 0])), ((mm 7), .inl (E.2.2 0, 25, .inl (fun _ => 0)))] 84 11441
  refine mp_lsld hL 4 (by decide) (by decide) (by decide) (by decide +kernel) ?_
  show mp_W E X 4 1844 [(3, .int 0), (2, .ref q2), (1, .ref q1), (0, .ref b)] [.int (xs 4), .int (xs 3), .int (xs 2), .int (xs 1), .ref q2, .int (-2)] [(q2, .inr (10, [.int 0, .ref (mm 1), .ref (mm 2), .ref (mm 3), .ref (mm 4), .ref (mm 5), .int 0, .int 0, .int 0, .int 0, .int 0, .long 0, .int 0, .int 0, .int 0, .int (-1), .ref (mm 6), .ref (mm 7), .ref (mm 8), .ref (mm 9), .ref (mm 10), .ref (mm 11), .ref (mm 12), .ref (mm 13), .int 0, .ref (mm 14), .ref (mm 15), .ref (mm 16), .ref (mm 17), .int 0, .int 0, .int 0, .ref (mm 18), .ref (mm 19), .int 0, .int 0, .ref (mm 20), .ref (mm 21), .ref (mm 22), .int 0, .int 0, .int 0, .int 0, .ref (mm 23), .ref (mm 24), .ref (mm 25), .int 0])), ((mm 7), .inl (E.2.2 0, 25, .inl (fun _ => 0)))] 84 11441
  refine mp_callV hF (As := [.int (xs 1), .int (xs 2), .int (xs 3), .int (xs 4)]) (rest := [.int (-2)]) (wr := []) (aX10_lucky_161 E q2 (mm 7) (mm 1) (mm 2) (mm 3) (mm 4) (mm 5) (mm 6) (mm 8) (mm 9) (mm 10) (mm 11) (mm 12) (mm 13) (mm 14) (mm 15) (mm 16) (mm 17) (mm 18) (mm 19) (mm 20) (mm 21) (mm 22) (mm 23) (mm 24) (mm 25) (xs 1) (xs 2) (xs 3) (xs 4)) mp_lkL_223 0 rfl [0, 1] [] rfl rfl rfl rfl rfl ⟨(Nat.le_of_ble_eq_true rfl), (Nat.le_of_ble_eq_true rfl), (Nat.le_of_ble_eq_true rfl), (Nat.le_of_ble_eq_true rfl)⟩ (Nat.le_of_ble_eq_true rfl) (by decide +kernel) (fun v20 w21 h22 => ?_)
  obtain ⟨rfl, rfl⟩ := h22
  show mp_W E X 4 1847 [(3, .int 0), (2, .ref q2), (1, .ref q1), (0, .ref b)] [.int (-2), .int (-2)] [] 84 11441
  refine mp_run hF mp_tabL_ok [mp_h (.if_icmp .eq 372) [2219]] (by decide +kernel) ?_
  refine And.intro (fun _ => ?_) (fun c23 => absurd c23 (by decide))
  show mp_W E X 4 2219 [(3, .int 0), (2, .ref q2), (1, .ref q1), (0, .ref b)] [] [] 84 11441
  exact mp_sub [3, 0] rfl [] rfl rfl (mp_lw_next hL (Nat.le_of_ble_eq_true rfl) (Nat.le_of_ble_eq_true rfl))

set_option maxHeartbeats 4000000 in
set_option maxRecDepth 100000 in
theorem mp_case_51 {E : mp_E} {X : mp_X} {b : Nat} {xs : Nat → Int32} (hL : mp_Lw E X b 6 xs) (q1 q2 : Nat) (bb mm : Nat → Nat) (vs ln wd : Nat → Int32) (hln : ∀ j, j < 4 → ln j = -1) (hwd : ∀ j, j < 4 → wd j = -1) : mp_W E X 4 1852 [(3, .int 0), (2, .ref q2), (1, .ref q1), (0, .ref b)] [] (mp_w0 E q1 q2 bb mm vs ln wd) 84 11441 := by
  have hF : mp_F E X (RL, code, 4, (2048, 600000, 7302250, 84000), ret, false) := hL.1
  show mp_W E X 4 1852 [(3, .int 0), (2, .ref q2), (1, .ref q1), (0, .ref b)] [] (mp_w0 E q1 q2 bb mm vs ln wd) 84 11441
  refine mp_run hF mp_tabL_ok [mp_i (.aload_n 1), mp_i (.aload_n 0), mp_i (.iload_n 3), mp_c (.iconst 1) 1, mp_i .iadd] (by decide +kernel) ?_
  intro z1 h2
  obtain rfl : z1 = 1 := h2.trans (by decide)
  show mp_W E X 4 1857 [(3, .int 0), (2, .ref q2), (1, .ref q1), (0, .ref b)] [.int 1, .ref b, .ref q1] (mp_w0 E q1 q2 bb mm vs ln wd) 84 11441
  refine mp_lsld hL 1 (by decide) (by decide) (by decide) (by decide +kernel) ?_
  show mp_W E X 4 1858 [(3, .int 0), (2, .ref q2), (1, .ref q1), (0, .ref b)] [.int (xs 1), .ref q1] (mp_w0 E q1 q2 bb mm vs ln wd) 84 11441
  refine mp_run hF mp_tabL_ok [mp_i (.aload_n 0), mp_i (.iload_n 3), mp_c (.iconst 2) 2, mp_i .iadd] (by decide +kernel) ?_
  intro z3 h4
  obtain rfl : z3 = 2 := h4.trans (by decide)
  show mp_W E X 4 1862 [(3, .int 0), (2, .ref q2), (1, .ref q1), (0, .ref b)] [.int 2, .ref b, .int (xs 1), .ref q1] (mp_w0 E q1 q2 bb mm vs ln wd) 84 11441
  refine mp_lsld hL 2 (by decide) (by decide) (by decide) (by decide +kernel) ?_
  show mp_W E X 4 1863 [(3, .int 0), (2, .ref q2), (1, .ref q1), (0, .ref b)] [.int (xs 2), .int (xs 1), .ref q1] (mp_w0 E q1 q2 bb mm vs ln wd) 84 11441
  refine mp_run hF mp_tabL_ok [mp_i (.aload_n 0), mp_i (.iload_n 3), mp_c (.iconst 3) 3, mp_i .iadd] (by decide +kernel) ?_
  intro z5 h6
  obtain rfl : z5 = 3 := h6.trans (by decide)
  show mp_W E X 4 1867 [(3, .int 0), (2, .ref q2), (1, .ref q1), (0, .ref b)] [.int 3, .ref b, .int (xs 2), .int (xs 1), .ref q1] (mp_w0 E q1 q2 bb mm vs ln wd) 84 11441
  refine mp_lsld hL 3 (by decide) (by decide) (by decide) (by decide +kernel) ?_
  show mp_W E X 4 1868 [(3, .int 0), (2, .ref q2), (1, .ref q1), (0, .ref b)] [.int (xs 3), .int (xs 2), .int (xs 1), .ref q1] (mp_w0 E q1 q2 bb mm vs ln wd) 84 11441
  refine mp_callV hF (As := [.int (xs 1), .int (xs 2), .int (xs 3)]) (rest := []) (wr := [(q2, .inr (10, [.int 0, .ref (mm 1), .ref (mm 2), .ref (mm 3), .ref (mm 4), .ref (mm 5), .int 0, .int 0, .int 0, .int 0, .int 0, .long 0, .int 0, .int 0, .int 0, .int (-1), .ref (mm 6), .ref (mm 7), .ref (mm 8), .ref (mm 9), .ref (mm 10), .ref (mm 11), .ref (mm 12), .ref (mm 13), .int 0, .ref (mm 14), .ref (mm 15), .ref (mm 16), .ref (mm 17), .int 0, .int 0, .int 0, .ref (mm 18), .ref (mm 19), .int 0, .int 0, .ref (mm 20), .ref (mm 21), .ref (mm 22), .int 0, .int 0, .int 0, .int 0, .ref (mm 23), .ref (mm 24), .ref (mm 25), .int 0])), ((mm 7), .inl (E.2.2 0, 25, .inl (fun _ => 0)))]) (aX9_promises_162 E q1 (bb 16) (bb 17) (bb 1) (bb 36) (bb 37) (bb 40) (bb 46) (bb 49) (bb 52) (bb 54) (bb 30) (bb 31) (bb 32) (bb 33) (bb 34) (bb 35) (bb 18) (bb 19) (bb 20) (bb 21) (bb 22) (bb 23) (bb 24) (bb 25) (bb 26) (bb 27) (bb 28) (bb 29) (xs 1) (xs 2) (xs 3)) mp_lkL_224 0 rfl [0, 16, 17] [58, 65] rfl rfl rfl rfl rfl ⟨(Nat.le_of_ble_eq_true rfl), (Nat.le_of_ble_eq_true rfl), (Nat.le_of_ble_eq_true rfl), (Nat.le_of_ble_eq_true rfl)⟩ (Nat.le_of_ble_eq_true rfl) (by decide +kernel) (fun v7 w8 h9 => ?_)
  obtain ⟨rfl, rfl⟩ := h9
  show mp_W E X 4 1871 [(3, .int 0), (2, .ref q2), (1, .ref q1), (0, .ref b)] [.int (-2)] [(q2, .inr (10, [.int 0, .ref (mm 1), .ref (mm 2), .ref (mm 3), .ref (mm 4), .ref (mm 5), .int 0, .int 0, .int 0, .int 0, .int 0, .long 0, .int 0, .int 0, .int 0, .int (-1), .ref (mm 6), .ref (mm 7), .ref (mm 8), .ref (mm 9), .ref (mm 10), .ref (mm 11), .ref (mm 12), .ref (mm 13), .int 0, .ref (mm 14), .ref (mm 15), .ref (mm 16), .ref (mm 17), .int 0, .int 0, .int 0, .ref (mm 18), .ref (mm 19), .int 0, .int 0, .ref (mm 20), .ref (mm 21), .ref (mm 22), .int 0, .int 0, .int 0, .int 0, .ref (mm 23), .ref (mm 24), .ref (mm 25), .int 0])), ((mm 7), .inl (E.2.2 0, 25, .inl (fun _ => 0)))] 84 11441
  refine mp_run hF mp_tabL_ok [mp_i (.aload_n 2), mp_i (.aload_n 0), mp_i (.iload_n 3), mp_c (.iconst 1) 1, mp_i .iadd] (by decide +kernel) ?_
  intro z10 h11
  obtain rfl : z10 = 1 := h11.trans (by decide)
  show mp_W E X 4 1876 [(3, .int 0), (2, .ref q2), (1, .ref q1), (0, .ref b)] [.int 1, .ref b, .ref q2, .int (-2)] [(q2, .inr (10, [.int 0, .ref (mm 1), .ref (mm 2), .ref (mm 3), .ref (mm 4), .ref (mm 5), .int 0, .int 0, .int 0, .int 0, .int 0, .long 0, .int 0, .int 0, .int 0, .int (-1), .ref (mm 6), .ref (mm 7), .ref (mm 8), .ref (mm 9), .ref (mm 10), .ref (mm 11), .ref (mm 12), .ref (mm 13), .int 0, .ref (mm 14), .ref (mm 15), .ref (mm 16), .ref (mm 17), .int 0, .int 0, .int 0, .ref (mm 18), .ref (mm 19), .int 0, .int 0, .ref (mm 20), .ref (mm 21), .ref (mm 22), .int 0, .int 0, .int 0, .int 0, .ref (mm 23), .ref (mm 24), .ref (mm 25), .int 0])), ((mm 7), .inl (E.2.2 0, 25, .inl (fun _ => 0)))] 84 11441
  refine mp_lsld hL 1 (by decide) (by decide) (by decide) (by decide +kernel) ?_
  show mp_W E X 4 1877 [(3, .int 0), (2, .ref q2), (1, .ref q1), (0, .ref b)] [.int (xs 1), .ref q2, .int (-2)] [(q2, .inr (10, [.int 0, .ref (mm 1), .ref (mm 2), .ref (mm 3), .ref (mm 4), .ref (mm 5), .int 0, .int 0, .int 0, .int 0, .int 0, .long 0, .int 0, .int 0, .int 0, .int (-1), .ref (mm 6), .ref (mm 7), .ref (mm 8), .ref (mm 9), .ref (mm 10), .ref (mm 11), .ref (mm 12), .ref (mm 13), .int 0, .ref (mm 14), .ref (mm 15), .ref (mm 16), .ref (mm 17), .int 0, .int 0, .int 0, .ref (mm 18), .ref (mm 19), .int 0, .int 0, .ref (mm 20), .ref (mm 21), .ref (mm 22), .int 0, .int 0, .int 0, .int 0, .ref (mm 23), .ref (mm 24), .ref (mm 25), .int 0])), ((mm 7), .inl (E.2.2 0, 25, .inl (fun _ => 0)))] 84 11441
  refine mp_run hF mp_tabL_ok [mp_i (.aload_n 0), mp_i (.iload_n 3), mp_c (.iconst 2) 2, mp_i .iadd] (by decide +kernel) ?_
  intro z12 h13
  obtain rfl : z12 = 2 := h13.trans (by decide)
  show mp_W E X 4 1881 [(3, .int 0), (2, .ref q2), (1, .ref q1), (0, .ref b)] [.int 2, .ref b, .int (xs 1), .ref q2, .int (-2)] [(q2, .inr (10, [.int 0, .ref (mm 1), .ref (mm 2), .ref (mm 3), .ref (mm 4), .ref (mm 5), .int 0, .int 0, .int 0, .int 0, .int 0, .long 0, .int 0, .int 0, .int 0, .int (-1), .ref (mm 6), .ref (mm 7), .ref (mm 8), .ref (mm 9), .ref (mm 10), .ref (mm 11), .ref (mm 12), .ref (mm 13), .int 0, .ref (mm 14), .ref (mm 15), .ref (mm 16), .ref (mm 17), .int 0, .int 0, .int 0, .ref (mm 18), .ref (mm 19), .int 0, .int 0, .ref (mm 20), .ref (mm 21), .ref (mm 22), .int 0, .int 0, .int 0, .int 0, .ref (mm 23), .ref (mm 24), .ref (mm 25), .int 0])), ((mm 7), .inl (E.2.2 0, 25, .inl (fun _ => 0)))] 84 11441
  refine mp_lsld hL 2 (by decide) (by decide) (by decide) (by decide +kernel) ?_
  show mp_W E X 4 1882 [(3, .int 0), (2, .ref q2), (1, .ref q1), (0, .ref b)] [.int (xs 2), .int (xs 1), .ref q2, .int (-2)] [(q2, .inr (10, [.int 0, .ref (mm 1), .ref (mm 2), .ref (mm 3), .ref (mm 4), .ref (mm 5), .int 0, .int 0, .int 0, .int 0, .int 0, .long 0, .int 0, .int 0, .int 0, .int (-1), .ref (mm 6), .ref (mm 7), .ref (mm 8), .ref (mm 9), .ref (mm 10), .ref (mm 11), .ref (mm 12), .ref (mm 13), .int 0, .ref (mm 14), .ref (mm 15), .ref (mm 16), .ref (mm 17), .int 0, .int 0, .int 0, .ref (mm 18), .ref (mm 19), .int 0, .int 0, .ref (mm 20), .ref (mm 21), .ref (mm 22), .int 0, .int 0, .int 0, .int 0, .ref (mm 23), .ref (mm 24), .ref (mm 25), .int 0])), ((mm 7), .inl (E.2.2 0, 25, .inl (fun _ => 0)))] 84 11441
  refine mp_run hF mp_tabL_ok [mp_i (.aload_n 0), mp_i (.iload_n 3), mp_c (.iconst 3) 3, mp_i .iadd] (by decide +kernel) ?_
  intro z14 h15
  obtain rfl : z14 = 3 := h15.trans (by decide)
  show mp_W E X 4 1886 [(3, .int 0), (2, .ref q2), (1, .ref q1), (0, .ref b)] [.int 3, .ref b, .int (xs 2), .int (xs 1), .ref q2, .int (-2)] [(q2, .inr (10, [.int 0, .ref (mm 1), .ref (mm 2), .ref (mm 3), .ref (mm 4), .ref (mm 5), .int 0, .int 0, .int 0, .int 0, .int 0, .long 0, .int 0, .int 0, .int 0, .int (-1), .ref (mm 6), .ref (mm 7), .ref (mm 8), .ref (mm 9), .ref (mm 10), .ref (mm 11), .ref (mm 12), .ref (mm 13), .int 0, .ref (mm 14), .ref (mm 15), .ref (mm 16), .ref (mm 17), .int 0, .int 0, .int 0, .ref (mm 18), .ref (mm 19), .int 0, .int 0, .ref (mm 20), .ref (mm 21), .ref (mm 22), .int 0, .int 0, .int 0, .int 0, .ref (mm 23), .ref (mm 24), .ref (mm 25), .int 0])), ((mm 7), .inl (E.2.2 0, 25, .inl (fun _ => 0)))] 84 11441
  refine mp_lsld hL 3 (by decide) (by decide) (by decide) (by decide +kernel) ?_
  show mp_W E X 4 1887 [(3, .int 0), (2, .ref q2), (1, .ref q1), (0, .ref b)] [.int (xs 3), .int (xs 2), .int (xs 1), .ref q2, .int (-2)] [(q2, .inr (10, [.int 0, .ref (mm 1), .ref (mm 2), .ref (mm 3), .ref (mm 4), .ref (mm 5), .int 0, .int 0, .int 0, .int 0, .int 0, .long 0, .int 0, .int 0, .int 0, .int (-1), .ref (mm 6), .ref (mm 7), .ref (mm 8), .ref (mm 9), .ref (mm 10), .ref (mm 11), .ref (mm 12), .ref (mm 13), .int 0, .ref (mm 14), .ref (mm 15), .ref (mm 16), .ref (mm 17), .int 0, .int 0, .int 0, .ref (mm 18), .ref (mm 19), .int 0, .int 0, .ref (mm 20), .ref (mm 21), .ref (mm 22), .int 0, .int 0, .int 0, .int 0, .ref (mm 23), .ref (mm 24), .ref (mm 25), .int 0])), ((mm 7), .inl (E.2.2 0, 25, .inl (fun _ => 0)))] 84 11441
  refine mp_callV hF (As := [.int (xs 1), .int (xs 2), .int (xs 3)]) (rest := [.int (-2)]) (wr := []) (aX10_promises_163 E q2 (mm 7) (mm 1) (mm 2) (mm 3) (mm 4) (mm 5) (mm 6) (mm 8) (mm 9) (mm 10) (mm 11) (mm 12) (mm 13) (mm 14) (mm 15) (mm 16) (mm 17) (mm 18) (mm 19) (mm 20) (mm 21) (mm 22) (mm 23) (mm 24) (mm 25) (xs 1) (xs 2) (xs 3)) mp_lkL_227 0 rfl [0, 1] [] rfl rfl rfl rfl rfl ⟨(Nat.le_of_ble_eq_true rfl), (Nat.le_of_ble_eq_true rfl), (Nat.le_of_ble_eq_true rfl), (Nat.le_of_ble_eq_true rfl)⟩ (Nat.le_of_ble_eq_true rfl) (by decide +kernel) (fun v16 w17 h18 => ?_)
  obtain ⟨rfl, rfl⟩ := h18
  show mp_W E X 4 1890 [(3, .int 0), (2, .ref q2), (1, .ref q1), (0, .ref b)] [.int (-2), .int (-2)] [] 84 11441
  refine mp_run hF mp_tabL_ok [mp_h (.if_icmp .eq 329) [2219]] (by decide +kernel) ?_
  refine And.intro (fun _ => ?_) (fun c19 => absurd c19 (by decide))
  show mp_W E X 4 2219 [(3, .int 0), (2, .ref q2), (1, .ref q1), (0, .ref b)] [] [] 84 11441
  exact mp_sub [3, 0] rfl [] rfl rfl (mp_lw_next hL (Nat.le_of_ble_eq_true rfl) (Nat.le_of_ble_eq_true rfl))

set_option maxHeartbeats 4000000 in
set_option maxRecDepth 100000 in
theorem mp_case_52 {E : mp_E} {X : mp_X} {b : Nat} {xs : Nat → Int32} (hL : mp_Lw E X b 6 xs) (q1 q2 : Nat) (bb mm : Nat → Nat) (vs ln wd : Nat → Int32) (hln : ∀ j, j < 4 → ln j = -1) (hwd : ∀ j, j < 4 → wd j = -1) : mp_W E X 4 1895 [(3, .int 0), (2, .ref q2), (1, .ref q1), (0, .ref b)] [] (mp_w0 E q1 q2 bb mm vs ln wd) 84 11441 := by
  have hF : mp_F E X (RL, code, 4, (2048, 600000, 7302250, 84000), ret, false) := hL.1
  show mp_W E X 4 1895 [(3, .int 0), (2, .ref q2), (1, .ref q1), (0, .ref b)] [] (mp_w0 E q1 q2 bb mm vs ln wd) 84 11441
  refine mp_run hF mp_tabL_ok [mp_i (.aload_n 1), mp_i (.aload_n 0), mp_i (.iload_n 3), mp_c (.iconst 1) 1, mp_i .iadd] (by decide +kernel) ?_
  intro z1 h2
  obtain rfl : z1 = 1 := h2.trans (by decide)
  show mp_W E X 4 1900 [(3, .int 0), (2, .ref q2), (1, .ref q1), (0, .ref b)] [.int 1, .ref b, .ref q1] (mp_w0 E q1 q2 bb mm vs ln wd) 84 11441
  refine mp_lsld hL 1 (by decide) (by decide) (by decide) (by decide +kernel) ?_
  show mp_W E X 4 1901 [(3, .int 0), (2, .ref q2), (1, .ref q1), (0, .ref b)] [.int (xs 1), .ref q1] (mp_w0 E q1 q2 bb mm vs ln wd) 84 11441
  refine mp_run hF mp_tabL_ok [mp_i (.aload_n 0), mp_i (.iload_n 3), mp_c (.iconst 2) 2, mp_i .iadd] (by decide +kernel) ?_
  intro z3 h4
  obtain rfl : z3 = 2 := h4.trans (by decide)
  show mp_W E X 4 1905 [(3, .int 0), (2, .ref q2), (1, .ref q1), (0, .ref b)] [.int 2, .ref b, .int (xs 1), .ref q1] (mp_w0 E q1 q2 bb mm vs ln wd) 84 11441
  refine mp_lsld hL 2 (by decide) (by decide) (by decide) (by decide +kernel) ?_
  show mp_W E X 4 1906 [(3, .int 0), (2, .ref q2), (1, .ref q1), (0, .ref b)] [.int (xs 2), .int (xs 1), .ref q1] (mp_w0 E q1 q2 bb mm vs ln wd) 84 11441
  refine mp_run hF mp_tabL_ok [mp_i (.aload_n 0), mp_i (.iload_n 3), mp_c (.iconst 3) 3, mp_i .iadd] (by decide +kernel) ?_
  intro z5 h6
  obtain rfl : z5 = 3 := h6.trans (by decide)
  show mp_W E X 4 1910 [(3, .int 0), (2, .ref q2), (1, .ref q1), (0, .ref b)] [.int 3, .ref b, .int (xs 2), .int (xs 1), .ref q1] (mp_w0 E q1 q2 bb mm vs ln wd) 84 11441
  refine mp_lsld hL 3 (by decide) (by decide) (by decide) (by decide +kernel) ?_
  show mp_W E X 4 1911 [(3, .int 0), (2, .ref q2), (1, .ref q1), (0, .ref b)] [.int (xs 3), .int (xs 2), .int (xs 1), .ref q1] (mp_w0 E q1 q2 bb mm vs ln wd) 84 11441
  refine mp_callV hF (As := [.int (xs 1), .int (xs 2), .int (xs 3)]) (rest := []) (wr := [(q2, .inr (10, [.int 0, .ref (mm 1), .ref (mm 2), .ref (mm 3), .ref (mm 4), .ref (mm 5), .int 0, .int 0, .int 0, .int 0, .int 0, .long 0, .int 0, .int 0, .int 0, .int (-1), .ref (mm 6), .ref (mm 7), .ref (mm 8), .ref (mm 9), .ref (mm 10), .ref (mm 11), .ref (mm 12), .ref (mm 13), .int 0, .ref (mm 14), .ref (mm 15), .ref (mm 16), .ref (mm 17), .int 0, .int 0, .int 0, .ref (mm 18), .ref (mm 19), .int 0, .int 0, .ref (mm 20), .ref (mm 21), .ref (mm 22), .int 0, .int 0, .int 0, .int 0, .ref (mm 23), .ref (mm 24), .ref (mm 25), .int 0])), ((mm 7), .inl (E.2.2 0, 25, .inl (fun _ => 0)))]) (aX9_shuts_164 E q1 (bb 16) (bb 17) (bb 1) (bb 36) (bb 37) (bb 40) (bb 46) (bb 49) (bb 52) (bb 54) (bb 30) (bb 31) (bb 32) (bb 33) (bb 34) (bb 35) (bb 18) (bb 19) (bb 20) (bb 21) (bb 22) (bb 23) (bb 24) (bb 25) (bb 26) (bb 27) (bb 28) (bb 29) (xs 1) (xs 2) (xs 3)) mp_lkL_228 0 rfl [0, 16, 17] [58, 65] rfl rfl rfl rfl rfl ⟨(Nat.le_of_ble_eq_true rfl), (Nat.le_of_ble_eq_true rfl), (Nat.le_of_ble_eq_true rfl), (Nat.le_of_ble_eq_true rfl)⟩ (Nat.le_of_ble_eq_true rfl) (by decide +kernel) (fun v7 w8 h9 => ?_)
  obtain ⟨rfl, rfl⟩ := h9
  show mp_W E X 4 1914 [(3, .int 0), (2, .ref q2), (1, .ref q1), (0, .ref b)] [.int (-2)] [(q2, .inr (10, [.int 0, .ref (mm 1), .ref (mm 2), .ref (mm 3), .ref (mm 4), .ref (mm 5), .int 0, .int 0, .int 0, .int 0, .int 0, .long 0, .int 0, .int 0, .int 0, .int (-1), .ref (mm 6), .ref (mm 7), .ref (mm 8), .ref (mm 9), .ref (mm 10), .ref (mm 11), .ref (mm 12), .ref (mm 13), .int 0, .ref (mm 14), .ref (mm 15), .ref (mm 16), .ref (mm 17), .int 0, .int 0, .int 0, .ref (mm 18), .ref (mm 19), .int 0, .int 0, .ref (mm 20), .ref (mm 21), .ref (mm 22), .int 0, .int 0, .int 0, .int 0, .ref (mm 23), .ref (mm 24), .ref (mm 25), .int 0])), ((mm 7), .inl (E.2.2 0, 25, .inl (fun _ => 0)))] 84 11441
  refine mp_run hF mp_tabL_ok [mp_i (.aload_n 2), mp_i (.aload_n 0), mp_i (.iload_n 3), mp_c (.iconst 1) 1, mp_i .iadd] (by decide +kernel) ?_
  intro z10 h11
  obtain rfl : z10 = 1 := h11.trans (by decide)
  show mp_W E X 4 1919 [(3, .int 0), (2, .ref q2), (1, .ref q1), (0, .ref b)] [.int 1, .ref b, .ref q2, .int (-2)] [(q2, .inr (10, [.int 0, .ref (mm 1), .ref (mm 2), .ref (mm 3), .ref (mm 4), .ref (mm 5), .int 0, .int 0, .int 0, .int 0, .int 0, .long 0, .int 0, .int 0, .int 0, .int (-1), .ref (mm 6), .ref (mm 7), .ref (mm 8), .ref (mm 9), .ref (mm 10), .ref (mm 11), .ref (mm 12), .ref (mm 13), .int 0, .ref (mm 14), .ref (mm 15), .ref (mm 16), .ref (mm 17), .int 0, .int 0, .int 0, .ref (mm 18), .ref (mm 19), .int 0, .int 0, .ref (mm 20), .ref (mm 21), .ref (mm 22), .int 0, .int 0, .int 0, .int 0, .ref (mm 23), .ref (mm 24), .ref (mm 25), .int 0])), ((mm 7), .inl (E.2.2 0, 25, .inl (fun _ => 0)))] 84 11441
  refine mp_lsld hL 1 (by decide) (by decide) (by decide) (by decide +kernel) ?_
  show mp_W E X 4 1920 [(3, .int 0), (2, .ref q2), (1, .ref q1), (0, .ref b)] [.int (xs 1), .ref q2, .int (-2)] [(q2, .inr (10, [.int 0, .ref (mm 1), .ref (mm 2), .ref (mm 3), .ref (mm 4), .ref (mm 5), .int 0, .int 0, .int 0, .int 0, .int 0, .long 0, .int 0, .int 0, .int 0, .int (-1), .ref (mm 6), .ref (mm 7), .ref (mm 8), .ref (mm 9), .ref (mm 10), .ref (mm 11), .ref (mm 12), .ref (mm 13), .int 0, .ref (mm 14), .ref (mm 15), .ref (mm 16), .ref (mm 17), .int 0, .int 0, .int 0, .ref (mm 18), .ref (mm 19), .int 0, .int 0, .ref (mm 20), .ref (mm 21), .ref (mm 22), .int 0, .int 0, .int 0, .int 0, .ref (mm 23), .ref (mm 24), .ref (mm 25), .int 0])), ((mm 7), .inl (E.2.2 0, 25, .inl (fun _ => 0)))] 84 11441
  refine mp_run hF mp_tabL_ok [mp_i (.aload_n 0), mp_i (.iload_n 3), mp_c (.iconst 2) 2, mp_i .iadd] (by decide +kernel) ?_
  intro z12 h13
  obtain rfl : z12 = 2 := h13.trans (by decide)
  show mp_W E X 4 1924 [(3, .int 0), (2, .ref q2), (1, .ref q1), (0, .ref b)] [.int 2, .ref b, .int (xs 1), .ref q2, .int (-2)] [(q2, .inr (10, [.int 0, .ref (mm 1), .ref (mm 2), .ref (mm 3), .ref (mm 4), .ref (mm 5), .int 0, .int 0, .int 0, .int 0, .int 0, .long 0, .int 0, .int 0, .int 0, .int (-1), .ref (mm 6), .ref (mm 7), .ref (mm 8), .ref (mm 9), .ref (mm 10), .ref (mm 11), .ref (mm 12), .ref (mm 13), .int 0, .ref (mm 14), .ref (mm 15), .ref (mm 16), .ref (mm 17), .int 0, .int 0, .int 0, .ref (mm 18), .ref (mm 19), .int 0, .int 0, .ref (mm 20), .ref (mm 21), .ref (mm 22), .int 0, .int 0, .int 0, .int 0, .ref (mm 23), .ref (mm 24), .ref (mm 25), .int 0])), ((mm 7), .inl (E.2.2 0, 25, .inl (fun _ => 0)))] 84 11441
  refine mp_lsld hL 2 (by decide) (by decide) (by decide) (by decide +kernel) ?_
  show mp_W E X 4 1925 [(3, .int 0), (2, .ref q2), (1, .ref q1), (0, .ref b)] [.int (xs 2), .int (xs 1), .ref q2, .int (-2)] [(q2, .inr (10, [.int 0, .ref (mm 1), .ref (mm 2), .ref (mm 3), .ref (mm 4), .ref (mm 5), .int 0, .int 0, .int 0, .int 0, .int 0, .long 0, .int 0, .int 0, .int 0, .int (-1), .ref (mm 6), .ref (mm 7), .ref (mm 8), .ref (mm 9), .ref (mm 10), .ref (mm 11), .ref (mm 12), .ref (mm 13), .int 0, .ref (mm 14), .ref (mm 15), .ref (mm 16), .ref (mm 17), .int 0, .int 0, .int 0, .ref (mm 18), .ref (mm 19), .int 0, .int 0, .ref (mm 20), .ref (mm 21), .ref (mm 22), .int 0, .int 0, .int 0, .int 0, .ref (mm 23), .ref (mm 24), .ref (mm 25), .int 0])), ((mm 7), .inl (E.2.2 0, 25, .inl (fun _ => 0)))] 84 11441
  refine mp_run hF mp_tabL_ok [mp_i (.aload_n 0), mp_i (.iload_n 3), mp_c (.iconst 3) 3, mp_i .iadd] (by decide +kernel) ?_
  intro z14 h15
  obtain rfl : z14 = 3 := h15.trans (by decide)
  show mp_W E X 4 1929 [(3, .int 0), (2, .ref q2), (1, .ref q1), (0, .ref b)] [.int 3, .ref b, .int (xs 2), .int (xs 1), .ref q2, .int (-2)] [(q2, .inr (10, [.int 0, .ref (mm 1), .ref (mm 2), .ref (mm 3), .ref (mm 4), .ref (mm 5), .int 0, .int 0, .int 0, .int 0, .int 0, .long 0, .int 0, .int 0, .int 0, .int (-1), .ref (mm 6), .ref (mm 7), .ref (mm 8), .ref (mm 9), .ref (mm 10), .ref (mm 11), .ref (mm 12), .ref (mm 13), .int 0, .ref (mm 14), .ref (mm 15), .ref (mm 16), .ref (mm 17), .int 0, .int 0, .int 0, .ref (mm 18), .ref (mm 19), .int 0, .int 0, .ref (mm 20), .ref (mm 21), .ref (mm 22), .int 0, .int 0, .int 0, .int 0, .ref (mm 23), .ref (mm 24), .ref (mm 25), .int 0])), ((mm 7), .inl (E.2.2 0, 25, .inl (fun _ => 0)))] 84 11441
  refine mp_lsld hL 3 (by decide) (by decide) (by decide) (by decide +kernel) ?_
  show mp_W E X 4 1930 [(3, .int 0), (2, .ref q2), (1, .ref q1), (0, .ref b)] [.int (xs 3), .int (xs 2), .int (xs 1), .ref q2, .int (-2)] [(q2, .inr (10, [.int 0, .ref (mm 1), .ref (mm 2), .ref (mm 3), .ref (mm 4), .ref (mm 5), .int 0, .int 0, .int 0, .int 0, .int 0, .long 0, .int 0, .int 0, .int 0, .int (-1), .ref (mm 6), .ref (mm 7), .ref (mm 8), .ref (mm 9), .ref (mm 10), .ref (mm 11), .ref (mm 12), .ref (mm 13), .int 0, .ref (mm 14), .ref (mm 15), .ref (mm 16), .ref (mm 17), .int 0, .int 0, .int 0, .ref (mm 18), .ref (mm 19), .int 0, .int 0, .ref (mm 20), .ref (mm 21), .ref (mm 22), .int 0, .int 0, .int 0, .int 0, .ref (mm 23), .ref (mm 24), .ref (mm 25), .int 0])), ((mm 7), .inl (E.2.2 0, 25, .inl (fun _ => 0)))] 84 11441
  refine mp_callV hF (As := [.int (xs 1), .int (xs 2), .int (xs 3)]) (rest := [.int (-2)]) (wr := []) (aX10_shuts_165 E q2 (mm 7) (mm 1) (mm 2) (mm 3) (mm 4) (mm 5) (mm 6) (mm 8) (mm 9) (mm 10) (mm 11) (mm 12) (mm 13) (mm 14) (mm 15) (mm 16) (mm 17) (mm 18) (mm 19) (mm 20) (mm 21) (mm 22) (mm 23) (mm 24) (mm 25) (xs 1) (xs 2) (xs 3)) mp_lkL_231 0 rfl [0, 1] [] rfl rfl rfl rfl rfl ⟨(Nat.le_of_ble_eq_true rfl), (Nat.le_of_ble_eq_true rfl), (Nat.le_of_ble_eq_true rfl), (Nat.le_of_ble_eq_true rfl)⟩ (Nat.le_of_ble_eq_true rfl) (by decide +kernel) (fun v16 w17 h18 => ?_)
  obtain ⟨rfl, rfl⟩ := h18
  show mp_W E X 4 1933 [(3, .int 0), (2, .ref q2), (1, .ref q1), (0, .ref b)] [.int (-2), .int (-2)] [] 84 11441
  refine mp_run hF mp_tabL_ok [mp_h (.if_icmp .eq 286) [2219]] (by decide +kernel) ?_
  refine And.intro (fun _ => ?_) (fun c19 => absurd c19 (by decide))
  show mp_W E X 4 2219 [(3, .int 0), (2, .ref q2), (1, .ref q1), (0, .ref b)] [] [] 84 11441
  exact mp_sub [3, 0] rfl [] rfl rfl (mp_lw_next hL (Nat.le_of_ble_eq_true rfl) (Nat.le_of_ble_eq_true rfl))

set_option maxHeartbeats 4000000 in
set_option maxRecDepth 100000 in
theorem mp_case_53 {E : mp_E} {X : mp_X} {b : Nat} {xs : Nat → Int32} (hL : mp_Lw E X b 6 xs) (q1 q2 : Nat) (bb mm : Nat → Nat) (vs ln wd : Nat → Int32) (hln : ∀ j, j < 4 → ln j = -1) (hwd : ∀ j, j < 4 → wd j = -1) : mp_W E X 4 1938 [(3, .int 0), (2, .ref q2), (1, .ref q1), (0, .ref b)] [] (mp_w0 E q1 q2 bb mm vs ln wd) 84 11441 := by
  have hF : mp_F E X (RL, code, 4, (2048, 600000, 7302250, 84000), ret, false) := hL.1
  show mp_W E X 4 1938 [(3, .int 0), (2, .ref q2), (1, .ref q1), (0, .ref b)] [] (mp_w0 E q1 q2 bb mm vs ln wd) 84 11441
  refine mp_run hF mp_tabL_ok [mp_i (.aload_n 1), mp_i (.aload_n 0), mp_i (.iload_n 3), mp_c (.iconst 1) 1, mp_i .iadd] (by decide +kernel) ?_
  intro z1 h2
  obtain rfl : z1 = 1 := h2.trans (by decide)
  show mp_W E X 4 1943 [(3, .int 0), (2, .ref q2), (1, .ref q1), (0, .ref b)] [.int 1, .ref b, .ref q1] (mp_w0 E q1 q2 bb mm vs ln wd) 84 11441
  refine mp_lsld hL 1 (by decide) (by decide) (by decide) (by decide +kernel) ?_
  show mp_W E X 4 1944 [(3, .int 0), (2, .ref q2), (1, .ref q1), (0, .ref b)] [.int (xs 1), .ref q1] (mp_w0 E q1 q2 bb mm vs ln wd) 84 11441
  refine mp_run hF mp_tabL_ok [mp_i (.aload_n 0), mp_i (.iload_n 3), mp_c (.iconst 2) 2, mp_i .iadd] (by decide +kernel) ?_
  intro z3 h4
  obtain rfl : z3 = 2 := h4.trans (by decide)
  show mp_W E X 4 1948 [(3, .int 0), (2, .ref q2), (1, .ref q1), (0, .ref b)] [.int 2, .ref b, .int (xs 1), .ref q1] (mp_w0 E q1 q2 bb mm vs ln wd) 84 11441
  refine mp_lsld hL 2 (by decide) (by decide) (by decide) (by decide +kernel) ?_
  show mp_W E X 4 1949 [(3, .int 0), (2, .ref q2), (1, .ref q1), (0, .ref b)] [.int (xs 2), .int (xs 1), .ref q1] (mp_w0 E q1 q2 bb mm vs ln wd) 84 11441
  refine mp_callV hF (As := [.int (xs 1), .int (xs 2)]) (rest := []) (wr := [(q2, .inr (10, [.int 0, .ref (mm 1), .ref (mm 2), .ref (mm 3), .ref (mm 4), .ref (mm 5), .int 0, .int 0, .int 0, .int 0, .int 0, .long 0, .int 0, .int 0, .int 0, .int (-1), .ref (mm 6), .ref (mm 7), .ref (mm 8), .ref (mm 9), .ref (mm 10), .ref (mm 11), .ref (mm 12), .ref (mm 13), .int 0, .ref (mm 14), .ref (mm 15), .ref (mm 16), .ref (mm 17), .int 0, .int 0, .int 0, .ref (mm 18), .ref (mm 19), .int 0, .int 0, .ref (mm 20), .ref (mm 21), .ref (mm 22), .int 0, .int 0, .int 0, .int 0, .ref (mm 23), .ref (mm 24), .ref (mm 25), .int 0])), ((mm 7), .inl (E.2.2 0, 25, .inl (fun _ => 0)))]) (aX9_tends_166 E q1 (bb 16) (bb 17) (bb 1) (bb 36) (bb 37) (bb 40) (bb 46) (bb 49) (bb 52) (bb 54) (bb 30) (bb 31) (bb 32) (bb 33) (bb 34) (bb 35) (bb 18) (bb 19) (bb 20) (bb 21) (bb 22) (bb 23) (bb 24) (bb 25) (bb 26) (bb 27) (bb 28) (bb 29) (xs 1) (xs 2)) mp_lkL_232 0 rfl [0, 16, 17] [58, 65] rfl rfl rfl rfl rfl ⟨(Nat.le_of_ble_eq_true rfl), (Nat.le_of_ble_eq_true rfl), (Nat.le_of_ble_eq_true rfl), (Nat.le_of_ble_eq_true rfl)⟩ (Nat.le_of_ble_eq_true rfl) (by decide +kernel) (fun v5 w6 h7 => ?_)
  obtain ⟨rfl, rfl⟩ := h7
  show mp_W E X 4 1952 [(3, .int 0), (2, .ref q2), (1, .ref q1), (0, .ref b)] [.int (-2)] [(q2, .inr (10, [.int 0, .ref (mm 1), .ref (mm 2), .ref (mm 3), .ref (mm 4), .ref (mm 5), .int 0, .int 0, .int 0, .int 0, .int 0, .long 0, .int 0, .int 0, .int 0, .int (-1), .ref (mm 6), .ref (mm 7), .ref (mm 8), .ref (mm 9), .ref (mm 10), .ref (mm 11), .ref (mm 12), .ref (mm 13), .int 0, .ref (mm 14), .ref (mm 15), .ref (mm 16), .ref (mm 17), .int 0, .int 0, .int 0, .ref (mm 18), .ref (mm 19), .int 0, .int 0, .ref (mm 20), .ref (mm 21), .ref (mm 22), .int 0, .int 0, .int 0, .int 0, .ref (mm 23), .ref (mm 24), .ref (mm 25), .int 0])), ((mm 7), .inl (E.2.2 0, 25, .inl (fun _ => 0)))] 84 11441
  refine mp_run hF mp_tabL_ok [mp_i (.aload_n 2), mp_i (.aload_n 0), mp_i (.iload_n 3), mp_c (.iconst 1) 1, mp_i .iadd] (by decide +kernel) ?_
  intro z8 h9
  obtain rfl : z8 = 1 := h9.trans (by decide)
  show mp_W E X 4 1957 [(3, .int 0), (2, .ref q2), (1, .ref q1), (0, .ref b)] [.int 1, .ref b, .ref q2, .int (-2)] [(q2, .inr (10, [.int 0, .ref (mm 1), .ref (mm 2), .ref (mm 3), .ref (mm 4), .ref (mm 5), .int 0, .int 0, .int 0, .int 0, .int 0, .long 0, .int 0, .int 0, .int 0, .int (-1), .ref (mm 6), .ref (mm 7), .ref (mm 8), .ref (mm 9), .ref (mm 10), .ref (mm 11), .ref (mm 12), .ref (mm 13), .int 0, .ref (mm 14), .ref (mm 15), .ref (mm 16), .ref (mm 17), .int 0, .int 0, .int 0, .ref (mm 18), .ref (mm 19), .int 0, .int 0, .ref (mm 20), .ref (mm 21), .ref (mm 22), .int 0, .int 0, .int 0, .int 0, .ref (mm 23), .ref (mm 24), .ref (mm 25), .int 0])), ((mm 7), .inl (E.2.2 0, 25, .inl (fun _ => 0)))] 84 11441
  refine mp_lsld hL 1 (by decide) (by decide) (by decide) (by decide +kernel) ?_
  show mp_W E X 4 1958 [(3, .int 0), (2, .ref q2), (1, .ref q1), (0, .ref b)] [.int (xs 1), .ref q2, .int (-2)] [(q2, .inr (10, [.int 0, .ref (mm 1), .ref (mm 2), .ref (mm 3), .ref (mm 4), .ref (mm 5), .int 0, .int 0, .int 0, .int 0, .int 0, .long 0, .int 0, .int 0, .int 0, .int (-1), .ref (mm 6), .ref (mm 7), .ref (mm 8), .ref (mm 9), .ref (mm 10), .ref (mm 11), .ref (mm 12), .ref (mm 13), .int 0, .ref (mm 14), .ref (mm 15), .ref (mm 16), .ref (mm 17), .int 0, .int 0, .int 0, .ref (mm 18), .ref (mm 19), .int 0, .int 0, .ref (mm 20), .ref (mm 21), .ref (mm 22), .int 0, .int 0, .int 0, .int 0, .ref (mm 23), .ref (mm 24), .ref (mm 25), .int 0])), ((mm 7), .inl (E.2.2 0, 25, .inl (fun _ => 0)))] 84 11441
  refine mp_run hF mp_tabL_ok [mp_i (.aload_n 0), mp_i (.iload_n 3), mp_c (.iconst 2) 2, mp_i .iadd] (by decide +kernel) ?_
  intro z10 h11
  obtain rfl : z10 = 2 := h11.trans (by decide)
  show mp_W E X 4 1962 [(3, .int 0), (2, .ref q2), (1, .ref q1), (0, .ref b)] [.int 2, .ref b, .int (xs 1), .ref q2, .int (-2)] [(q2, .inr (10, [.int 0, .ref (mm 1), .ref (mm 2), .ref (mm 3), .ref (mm 4), .ref (mm 5), .int 0, .int 0, .int 0, .int 0, .int 0, .long 0, .int 0, .int 0, .int 0, .int (-1), .ref (mm 6), .ref (mm 7), .ref (mm 8), .ref (mm 9), .ref (mm 10), .ref (mm 11), .ref (mm 12), .ref (mm 13), .int 0, .ref (mm 14), .ref (mm 15), .ref (mm 16), .ref (mm 17), .int 0, .int 0, .int 0, .ref (mm 18), .ref (mm 19), .int 0, .int 0, .ref (mm 20), .ref (mm 21), .ref (mm 22), .int 0, .int 0, .int 0, .int 0, .ref (mm 23), .ref (mm 24), .ref (mm 25), .int 0])), ((mm 7), .inl (E.2.2 0, 25, .inl (fun _ => 0)))] 84 11441
  refine mp_lsld hL 2 (by decide) (by decide) (by decide) (by decide +kernel) ?_
  show mp_W E X 4 1963 [(3, .int 0), (2, .ref q2), (1, .ref q1), (0, .ref b)] [.int (xs 2), .int (xs 1), .ref q2, .int (-2)] [(q2, .inr (10, [.int 0, .ref (mm 1), .ref (mm 2), .ref (mm 3), .ref (mm 4), .ref (mm 5), .int 0, .int 0, .int 0, .int 0, .int 0, .long 0, .int 0, .int 0, .int 0, .int (-1), .ref (mm 6), .ref (mm 7), .ref (mm 8), .ref (mm 9), .ref (mm 10), .ref (mm 11), .ref (mm 12), .ref (mm 13), .int 0, .ref (mm 14), .ref (mm 15), .ref (mm 16), .ref (mm 17), .int 0, .int 0, .int 0, .ref (mm 18), .ref (mm 19), .int 0, .int 0, .ref (mm 20), .ref (mm 21), .ref (mm 22), .int 0, .int 0, .int 0, .int 0, .ref (mm 23), .ref (mm 24), .ref (mm 25), .int 0])), ((mm 7), .inl (E.2.2 0, 25, .inl (fun _ => 0)))] 84 11441
  refine mp_callV hF (As := [.int (xs 1), .int (xs 2)]) (rest := [.int (-2)]) (wr := []) (aX10_tends_167 E q2 (mm 7) (mm 1) (mm 2) (mm 3) (mm 4) (mm 5) (mm 6) (mm 8) (mm 9) (mm 10) (mm 11) (mm 12) (mm 13) (mm 14) (mm 15) (mm 16) (mm 17) (mm 18) (mm 19) (mm 20) (mm 21) (mm 22) (mm 23) (mm 24) (mm 25) (xs 1) (xs 2)) mp_lkL_235 0 rfl [0, 1] [] rfl rfl rfl rfl rfl ⟨(Nat.le_of_ble_eq_true rfl), (Nat.le_of_ble_eq_true rfl), (Nat.le_of_ble_eq_true rfl), (Nat.le_of_ble_eq_true rfl)⟩ (Nat.le_of_ble_eq_true rfl) (by decide +kernel) (fun v12 w13 h14 => ?_)
  obtain ⟨rfl, rfl⟩ := h14
  show mp_W E X 4 1966 [(3, .int 0), (2, .ref q2), (1, .ref q1), (0, .ref b)] [.int (-2), .int (-2)] [] 84 11441
  refine mp_run hF mp_tabL_ok [mp_h (.if_icmp .eq 253) [2219]] (by decide +kernel) ?_
  refine And.intro (fun _ => ?_) (fun c15 => absurd c15 (by decide))
  show mp_W E X 4 2219 [(3, .int 0), (2, .ref q2), (1, .ref q1), (0, .ref b)] [] [] 84 11441
  exact mp_sub [3, 0] rfl [] rfl rfl (mp_lw_next hL (Nat.le_of_ble_eq_true rfl) (Nat.le_of_ble_eq_true rfl))

set_option maxHeartbeats 4000000 in
set_option maxRecDepth 100000 in
theorem mp_case_54 {E : mp_E} {X : mp_X} {b : Nat} {xs : Nat → Int32} (hL : mp_Lw E X b 6 xs) (q1 q2 : Nat) (bb mm : Nat → Nat) (vs ln wd : Nat → Int32) (hln : ∀ j, j < 4 → ln j = -1) (hwd : ∀ j, j < 4 → wd j = -1) : mp_W E X 4 1971 [(3, .int 0), (2, .ref q2), (1, .ref q1), (0, .ref b)] [] (mp_w0 E q1 q2 bb mm vs ln wd) 84 11441 := by
  have hF : mp_F E X (RL, code, 4, (2048, 600000, 7302250, 84000), ret, false) := hL.1
  show mp_W E X 4 1971 [(3, .int 0), (2, .ref q2), (1, .ref q1), (0, .ref b)] [] (mp_w0 E q1 q2 bb mm vs ln wd) 84 11441
  refine mp_run hF mp_tabL_ok [mp_i (.aload_n 1), mp_i (.aload_n 0), mp_i (.iload_n 3), mp_c (.iconst 1) 1, mp_i .iadd] (by decide +kernel) ?_
  intro z1 h2
  obtain rfl : z1 = 1 := h2.trans (by decide)
  show mp_W E X 4 1976 [(3, .int 0), (2, .ref q2), (1, .ref q1), (0, .ref b)] [.int 1, .ref b, .ref q1] (mp_w0 E q1 q2 bb mm vs ln wd) 84 11441
  refine mp_lsld hL 1 (by decide) (by decide) (by decide) (by decide +kernel) ?_
  show mp_W E X 4 1977 [(3, .int 0), (2, .ref q2), (1, .ref q1), (0, .ref b)] [.int (xs 1), .ref q1] (mp_w0 E q1 q2 bb mm vs ln wd) 84 11441
  refine mp_callV hF (As := [.int (xs 1)]) (rest := []) (wr := [(q2, .inr (10, [.int 0, .ref (mm 1), .ref (mm 2), .ref (mm 3), .ref (mm 4), .ref (mm 5), .int 0, .int 0, .int 0, .int 0, .int 0, .long 0, .int 0, .int 0, .int 0, .int (-1), .ref (mm 6), .ref (mm 7), .ref (mm 8), .ref (mm 9), .ref (mm 10), .ref (mm 11), .ref (mm 12), .ref (mm 13), .int 0, .ref (mm 14), .ref (mm 15), .ref (mm 16), .ref (mm 17), .int 0, .int 0, .int 0, .ref (mm 18), .ref (mm 19), .int 0, .int 0, .ref (mm 20), .ref (mm 21), .ref (mm 22), .int 0, .int 0, .int 0, .int 0, .ref (mm 23), .ref (mm 24), .ref (mm 25), .int 0])), ((mm 1), .inl (E.2.2 0, 4, .inl wd)), ((mm 6), .inl (E.2.2 0, 5, .inl (fun _ => 0))), ((mm 7), .inl (E.2.2 0, 25, .inl (fun _ => 0))), ((mm 8), .inl (E.2.2 0, 180, .inl (fun _ => 0))), ((mm 9), .inl (E.2.2 3, 3000, .inl (fun _ => 0)))]) (aX9_count_176 E q1 (bb 1) (bb 16) (bb 17) (bb 18) (bb 19) (bb 54) (bb 57) (bb 36) (bb 37) (bb 40) (bb 46) (bb 49) (bb 52) (bb 2) (bb 3) (bb 30) (bb 31) (bb 32) (bb 33) (bb 34) (bb 35) (bb 20) (bb 21) (bb 22) (bb 23) (bb 24) (bb 25) (bb 26) (bb 27) (bb 28) (bb 29) (bb 55) (bb 56) ln (xs 1) hln) mp_lkL_236 0 rfl [0, 1, 16, 17, 18, 19, 54, 57] [58, 59, 64, 65, 66, 67] rfl rfl rfl rfl rfl ⟨(Nat.le_of_ble_eq_true rfl), (Nat.le_of_ble_eq_true rfl), (Nat.le_of_ble_eq_true rfl), (Nat.le_of_ble_eq_true rfl)⟩ (Nat.le_of_ble_eq_true rfl) (by decide +kernel) (fun v3 w4 h5 => ?_)
  rcases h5 with ⟨rfl, c6, rfl⟩ | ⟨rfl, c7, rfl⟩ | ⟨rfl, c8, rfl⟩ | ⟨rfl, c9, rfl⟩ | ⟨rfl, c10, rfl⟩ | ⟨rfl, c11, rfl⟩ | ⟨rfl, c12, rfl⟩ | ⟨rfl, c13, rfl⟩ | ⟨rfl, c14, rfl⟩ | ⟨rfl, c15, rfl⟩ | ⟨rfl, c16, rfl⟩ | ⟨rfl, c17, rfl⟩
  · skip
    have c6 : (xs 1).toInt < 0 := c6
    show mp_W E X 4 1980 [(3, .int 0), (2, .ref q2), (1, .ref q1), (0, .ref b)] [.int (-1)] [(q2, .inr (10, [.int 0, .ref (mm 1), .ref (mm 2), .ref (mm 3), .ref (mm 4), .ref (mm 5), .int 0, .int 0, .int 0, .int 0, .int 0, .long 0, .int 0, .int 0, .int 0, .int (-1), .ref (mm 6), .ref (mm 7), .ref (mm 8), .ref (mm 9), .ref (mm 10), .ref (mm 11), .ref (mm 12), .ref (mm 13), .int 0, .ref (mm 14), .ref (mm 15), .ref (mm 16), .ref (mm 17), .int 0, .int 0, .int 0, .ref (mm 18), .ref (mm 19), .int 0, .int 0, .ref (mm 20), .ref (mm 21), .ref (mm 22), .int 0, .int 0, .int 0, .int 0, .ref (mm 23), .ref (mm 24), .ref (mm 25), .int 0])), ((mm 1), .inl (E.2.2 0, 4, .inl wd)), ((mm 6), .inl (E.2.2 0, 5, .inl (fun _ => 0))), ((mm 7), .inl (E.2.2 0, 25, .inl (fun _ => 0))), ((mm 8), .inl (E.2.2 0, 180, .inl (fun _ => 0))), ((mm 9), .inl (E.2.2 3, 3000, .inl (fun _ => 0)))] 84 11441
    refine mp_run hF mp_tabL_ok [mp_i (.aload_n 2), mp_i (.aload_n 0), mp_i (.iload_n 3), mp_c (.iconst 1) 1, mp_i .iadd] (by decide +kernel) ?_
    intro z18 h19
    obtain rfl : z18 = 1 := h19.trans (by decide)
    show mp_W E X 4 1985 [(3, .int 0), (2, .ref q2), (1, .ref q1), (0, .ref b)] [.int 1, .ref b, .ref q2, .int (-1)] [(q2, .inr (10, [.int 0, .ref (mm 1), .ref (mm 2), .ref (mm 3), .ref (mm 4), .ref (mm 5), .int 0, .int 0, .int 0, .int 0, .int 0, .long 0, .int 0, .int 0, .int 0, .int (-1), .ref (mm 6), .ref (mm 7), .ref (mm 8), .ref (mm 9), .ref (mm 10), .ref (mm 11), .ref (mm 12), .ref (mm 13), .int 0, .ref (mm 14), .ref (mm 15), .ref (mm 16), .ref (mm 17), .int 0, .int 0, .int 0, .ref (mm 18), .ref (mm 19), .int 0, .int 0, .ref (mm 20), .ref (mm 21), .ref (mm 22), .int 0, .int 0, .int 0, .int 0, .ref (mm 23), .ref (mm 24), .ref (mm 25), .int 0])), ((mm 1), .inl (E.2.2 0, 4, .inl wd)), ((mm 6), .inl (E.2.2 0, 5, .inl (fun _ => 0))), ((mm 7), .inl (E.2.2 0, 25, .inl (fun _ => 0))), ((mm 8), .inl (E.2.2 0, 180, .inl (fun _ => 0))), ((mm 9), .inl (E.2.2 3, 3000, .inl (fun _ => 0)))] 84 11441
    refine mp_lsld hL 1 (by decide) (by decide) (by decide) (by decide +kernel) ?_
    show mp_W E X 4 1986 [(3, .int 0), (2, .ref q2), (1, .ref q1), (0, .ref b)] [.int (xs 1), .ref q2, .int (-1)] [(q2, .inr (10, [.int 0, .ref (mm 1), .ref (mm 2), .ref (mm 3), .ref (mm 4), .ref (mm 5), .int 0, .int 0, .int 0, .int 0, .int 0, .long 0, .int 0, .int 0, .int 0, .int (-1), .ref (mm 6), .ref (mm 7), .ref (mm 8), .ref (mm 9), .ref (mm 10), .ref (mm 11), .ref (mm 12), .ref (mm 13), .int 0, .ref (mm 14), .ref (mm 15), .ref (mm 16), .ref (mm 17), .int 0, .int 0, .int 0, .ref (mm 18), .ref (mm 19), .int 0, .int 0, .ref (mm 20), .ref (mm 21), .ref (mm 22), .int 0, .int 0, .int 0, .int 0, .ref (mm 23), .ref (mm 24), .ref (mm 25), .int 0])), ((mm 1), .inl (E.2.2 0, 4, .inl wd)), ((mm 6), .inl (E.2.2 0, 5, .inl (fun _ => 0))), ((mm 7), .inl (E.2.2 0, 25, .inl (fun _ => 0))), ((mm 8), .inl (E.2.2 0, 180, .inl (fun _ => 0))), ((mm 9), .inl (E.2.2 3, 3000, .inl (fun _ => 0)))] 84 11441
    refine mp_callV hF (As := [.int (xs 1)]) (rest := [.int (-1)]) (wr := []) (aX10_count_177 E q2 (mm 1) (mm 6) (mm 7) (mm 8) (mm 9) (mm 2) (mm 3) (mm 4) (mm 5) (mm 10) (mm 11) (mm 12) (mm 13) (mm 14) (mm 15) (mm 16) (mm 17) (mm 18) (mm 19) (mm 20) (mm 21) (mm 22) (mm 23) (mm 24) (mm 25) wd (xs 1) hwd) mp_lkL_239 0 rfl [0, 1, 2, 3, 4, 5] [] rfl rfl rfl rfl rfl ⟨(Nat.le_of_ble_eq_true rfl), (Nat.le_of_ble_eq_true rfl), (Nat.le_of_ble_eq_true rfl), (Nat.le_of_ble_eq_true rfl)⟩ (Nat.le_of_ble_eq_true rfl) (by decide +kernel) (fun v20 w21 h22 => ?_)
    rcases h22 with ⟨rfl, c23, rfl⟩ | ⟨rfl, c24, rfl⟩ | ⟨rfl, c25, rfl⟩ | ⟨rfl, c26, rfl⟩ | ⟨rfl, c27, rfl⟩ | ⟨rfl, c28, rfl⟩ | ⟨rfl, c29, rfl⟩ | ⟨rfl, c30, rfl⟩ | ⟨rfl, c31, rfl⟩ | ⟨rfl, c32, rfl⟩ | ⟨rfl, c33, rfl⟩ | ⟨rfl, c34, rfl⟩
    · skip
      have c23 : (xs 1).toInt < 0 := c23
      show mp_W E X 4 1989 [(3, .int 0), (2, .ref q2), (1, .ref q1), (0, .ref b)] [.int (-1), .int (-1)] [] 84 11441
      refine mp_run hF mp_tabL_ok [mp_h (.if_icmp .eq 230) [2219]] (by decide +kernel) ?_
      refine And.intro (fun _ => ?_) (fun c35 => absurd c35 (by decide))
      show mp_W E X 4 2219 [(3, .int 0), (2, .ref q2), (1, .ref q1), (0, .ref b)] [] [] 84 11441
      exact mp_sub [3, 0] rfl [] rfl rfl (mp_lw_next hL (Nat.le_of_ble_eq_true rfl) (Nat.le_of_ble_eq_true rfl))
    · skip
      have c24 : 9 < (xs 1).toInt := c24
      exfalso; omega
    · skip
      have c25 : (xs 1).toInt = 0 := c25
      exfalso; omega
    · skip
      have c26 : (xs 1).toInt = 1 := c26
      exfalso; omega
    · skip
      have c27 : (xs 1).toInt = 2 := c27
      exfalso; omega
    · skip
      have c28 : (xs 1).toInt = 3 := c28
      exfalso; omega
    · skip
      have c29 : (xs 1).toInt = 4 := c29
      exfalso; omega
    · skip
      have c30 : (xs 1).toInt = 5 := c30
      exfalso; omega
    · skip
      have c31 : (xs 1).toInt = 6 := c31
      exfalso; omega
    · skip
      have c32 : (xs 1).toInt = 7 := c32
      exfalso; omega
    · skip
      have c33 : (xs 1).toInt = 8 := c33
      exfalso; omega
    · skip
      have c34 : (xs 1).toInt = 9 := c34
      exfalso; omega
  · skip
    have c7 : 9 < (xs 1).toInt := c7
    show mp_W E X 4 1980 [(3, .int 0), (2, .ref q2), (1, .ref q1), (0, .ref b)] [.int (-1)] [(q2, .inr (10, [.int 0, .ref (mm 1), .ref (mm 2), .ref (mm 3), .ref (mm 4), .ref (mm 5), .int 0, .int 0, .int 0, .int 0, .int 0, .long 0, .int 0, .int 0, .int 0, .int (-1), .ref (mm 6), .ref (mm 7), .ref (mm 8), .ref (mm 9), .ref (mm 10), .ref (mm 11), .ref (mm 12), .ref (mm 13), .int 0, .ref (mm 14), .ref (mm 15), .ref (mm 16), .ref (mm 17), .int 0, .int 0, .int 0, .ref (mm 18), .ref (mm 19), .int 0, .int 0, .ref (mm 20), .ref (mm 21), .ref (mm 22), .int 0, .int 0, .int 0, .int 0, .ref (mm 23), .ref (mm 24), .ref (mm 25), .int 0])), ((mm 1), .inl (E.2.2 0, 4, .inl wd)), ((mm 6), .inl (E.2.2 0, 5, .inl (fun _ => 0))), ((mm 7), .inl (E.2.2 0, 25, .inl (fun _ => 0))), ((mm 8), .inl (E.2.2 0, 180, .inl (fun _ => 0))), ((mm 9), .inl (E.2.2 3, 3000, .inl (fun _ => 0)))] 84 11441
    refine mp_run hF mp_tabL_ok [mp_i (.aload_n 2), mp_i (.aload_n 0), mp_i (.iload_n 3), mp_c (.iconst 1) 1, mp_i .iadd] (by decide +kernel) ?_
    intro z36 h37
    obtain rfl : z36 = 1 := h37.trans (by decide)
    show mp_W E X 4 1985 [(3, .int 0), (2, .ref q2), (1, .ref q1), (0, .ref b)] [.int 1, .ref b, .ref q2, .int (-1)] [(q2, .inr (10, [.int 0, .ref (mm 1), .ref (mm 2), .ref (mm 3), .ref (mm 4), .ref (mm 5), .int 0, .int 0, .int 0, .int 0, .int 0, .long 0, .int 0, .int 0, .int 0, .int (-1), .ref (mm 6), .ref (mm 7), .ref (mm 8), .ref (mm 9), .ref (mm 10), .ref (mm 11), .ref (mm 12), .ref (mm 13), .int 0, .ref (mm 14), .ref (mm 15), .ref (mm 16), .ref (mm 17), .int 0, .int 0, .int 0, .ref (mm 18), .ref (mm 19), .int 0, .int 0, .ref (mm 20), .ref (mm 21), .ref (mm 22), .int 0, .int 0, .int 0, .int 0, .ref (mm 23), .ref (mm 24), .ref (mm 25), .int 0])), ((mm 1), .inl (E.2.2 0, 4, .inl wd)), ((mm 6), .inl (E.2.2 0, 5, .inl (fun _ => 0))), ((mm 7), .inl (E.2.2 0, 25, .inl (fun _ => 0))), ((mm 8), .inl (E.2.2 0, 180, .inl (fun _ => 0))), ((mm 9), .inl (E.2.2 3, 3000, .inl (fun _ => 0)))] 84 11441
    refine mp_lsld hL 1 (by decide) (by decide) (by decide) (by decide +kernel) ?_
    show mp_W E X 4 1986 [(3, .int 0), (2, .ref q2), (1, .ref q1), (0, .ref b)] [.int (xs 1), .ref q2, .int (-1)] [(q2, .inr (10, [.int 0, .ref (mm 1), .ref (mm 2), .ref (mm 3), .ref (mm 4), .ref (mm 5), .int 0, .int 0, .int 0, .int 0, .int 0, .long 0, .int 0, .int 0, .int 0, .int (-1), .ref (mm 6), .ref (mm 7), .ref (mm 8), .ref (mm 9), .ref (mm 10), .ref (mm 11), .ref (mm 12), .ref (mm 13), .int 0, .ref (mm 14), .ref (mm 15), .ref (mm 16), .ref (mm 17), .int 0, .int 0, .int 0, .ref (mm 18), .ref (mm 19), .int 0, .int 0, .ref (mm 20), .ref (mm 21), .ref (mm 22), .int 0, .int 0, .int 0, .int 0, .ref (mm 23), .ref (mm 24), .ref (mm 25), .int 0])), ((mm 1), .inl (E.2.2 0, 4, .inl wd)), ((mm 6), .inl (E.2.2 0, 5, .inl (fun _ => 0))), ((mm 7), .inl (E.2.2 0, 25, .inl (fun _ => 0))), ((mm 8), .inl (E.2.2 0, 180, .inl (fun _ => 0))), ((mm 9), .inl (E.2.2 3, 3000, .inl (fun _ => 0)))] 84 11441
    refine mp_callV hF (As := [.int (xs 1)]) (rest := [.int (-1)]) (wr := []) (aX10_count_177 E q2 (mm 1) (mm 6) (mm 7) (mm 8) (mm 9) (mm 2) (mm 3) (mm 4) (mm 5) (mm 10) (mm 11) (mm 12) (mm 13) (mm 14) (mm 15) (mm 16) (mm 17) (mm 18) (mm 19) (mm 20) (mm 21) (mm 22) (mm 23) (mm 24) (mm 25) wd (xs 1) hwd) mp_lkL_239 0 rfl [0, 1, 2, 3, 4, 5] [] rfl rfl rfl rfl rfl ⟨(Nat.le_of_ble_eq_true rfl), (Nat.le_of_ble_eq_true rfl), (Nat.le_of_ble_eq_true rfl), (Nat.le_of_ble_eq_true rfl)⟩ (Nat.le_of_ble_eq_true rfl) (by decide +kernel) (fun v38 w39 h40 => ?_)
    rcases h40 with ⟨rfl, c41, rfl⟩ | ⟨rfl, c42, rfl⟩ | ⟨rfl, c43, rfl⟩ | ⟨rfl, c44, rfl⟩ | ⟨rfl, c45, rfl⟩ | ⟨rfl, c46, rfl⟩ | ⟨rfl, c47, rfl⟩ | ⟨rfl, c48, rfl⟩ | ⟨rfl, c49, rfl⟩ | ⟨rfl, c50, rfl⟩ | ⟨rfl, c51, rfl⟩ | ⟨rfl, c52, rfl⟩
    · skip
      have c41 : (xs 1).toInt < 0 := c41
      exfalso; omega
    · skip
      have c42 : 9 < (xs 1).toInt := c42
      show mp_W E X 4 1989 [(3, .int 0), (2, .ref q2), (1, .ref q1), (0, .ref b)] [.int (-1), .int (-1)] [] 84 11441
      refine mp_run hF mp_tabL_ok [mp_h (.if_icmp .eq 230) [2219]] (by decide +kernel) ?_
      refine And.intro (fun _ => ?_) (fun c53 => absurd c53 (by decide))
      show mp_W E X 4 2219 [(3, .int 0), (2, .ref q2), (1, .ref q1), (0, .ref b)] [] [] 84 11441
      exact mp_sub [3, 0] rfl [] rfl rfl (mp_lw_next hL (Nat.le_of_ble_eq_true rfl) (Nat.le_of_ble_eq_true rfl))
    · skip
      have c43 : (xs 1).toInt = 0 := c43
      exfalso; omega
    · skip
      have c44 : (xs 1).toInt = 1 := c44
      exfalso; omega
    · skip
      have c45 : (xs 1).toInt = 2 := c45
      exfalso; omega
    · skip
      have c46 : (xs 1).toInt = 3 := c46
      exfalso; omega
    · skip
      have c47 : (xs 1).toInt = 4 := c47
      exfalso; omega
    · skip
      have c48 : (xs 1).toInt = 5 := c48
      exfalso; omega
    · skip
      have c49 : (xs 1).toInt = 6 := c49
      exfalso; omega
    · skip
      have c50 : (xs 1).toInt = 7 := c50
      exfalso; omega
    · skip
      have c51 : (xs 1).toInt = 8 := c51
      exfalso; omega
    · skip
      have c52 : (xs 1).toInt = 9 := c52
      exfalso; omega
  · skip
    have c8 : (xs 1).toInt = 0 := c8
    show mp_W E X 4 1980 [(3, .int 0), (2, .ref q2), (1, .ref q1), (0, .ref b)] [.int 0] [(q2, .inr (10, [.int 0, .ref (mm 1), .ref (mm 2), .ref (mm 3), .ref (mm 4), .ref (mm 5), .int 0, .int 0, .int 0, .int 0, .int 0, .long 0, .int 0, .int 0, .int 0, .int (-1), .ref (mm 6), .ref (mm 7), .ref (mm 8), .ref (mm 9), .ref (mm 10), .ref (mm 11), .ref (mm 12), .ref (mm 13), .int 0, .ref (mm 14), .ref (mm 15), .ref (mm 16), .ref (mm 17), .int 0, .int 0, .int 0, .ref (mm 18), .ref (mm 19), .int 0, .int 0, .ref (mm 20), .ref (mm 21), .ref (mm 22), .int 0, .int 0, .int 0, .int 0, .ref (mm 23), .ref (mm 24), .ref (mm 25), .int 0])), ((mm 1), .inl (E.2.2 0, 4, .inl wd)), ((mm 6), .inl (E.2.2 0, 5, .inl (fun _ => 0))), ((mm 7), .inl (E.2.2 0, 25, .inl (fun _ => 0))), ((mm 8), .inl (E.2.2 0, 180, .inl (fun _ => 0))), ((mm 9), .inl (E.2.2 3, 3000, .inl (fun _ => 0)))] 84 11441
    refine mp_run hF mp_tabL_ok [mp_i (.aload_n 2), mp_i (.aload_n 0), mp_i (.iload_n 3), mp_c (.iconst 1) 1, mp_i .iadd] (by decide +kernel) ?_
    intro z54 h55
    obtain rfl : z54 = 1 := h55.trans (by decide)
    show mp_W E X 4 1985 [(3, .int 0), (2, .ref q2), (1, .ref q1), (0, .ref b)] [.int 1, .ref b, .ref q2, .int 0] [(q2, .inr (10, [.int 0, .ref (mm 1), .ref (mm 2), .ref (mm 3), .ref (mm 4), .ref (mm 5), .int 0, .int 0, .int 0, .int 0, .int 0, .long 0, .int 0, .int 0, .int 0, .int (-1), .ref (mm 6), .ref (mm 7), .ref (mm 8), .ref (mm 9), .ref (mm 10), .ref (mm 11), .ref (mm 12), .ref (mm 13), .int 0, .ref (mm 14), .ref (mm 15), .ref (mm 16), .ref (mm 17), .int 0, .int 0, .int 0, .ref (mm 18), .ref (mm 19), .int 0, .int 0, .ref (mm 20), .ref (mm 21), .ref (mm 22), .int 0, .int 0, .int 0, .int 0, .ref (mm 23), .ref (mm 24), .ref (mm 25), .int 0])), ((mm 1), .inl (E.2.2 0, 4, .inl wd)), ((mm 6), .inl (E.2.2 0, 5, .inl (fun _ => 0))), ((mm 7), .inl (E.2.2 0, 25, .inl (fun _ => 0))), ((mm 8), .inl (E.2.2 0, 180, .inl (fun _ => 0))), ((mm 9), .inl (E.2.2 3, 3000, .inl (fun _ => 0)))] 84 11441
    refine mp_lsld hL 1 (by decide) (by decide) (by decide) (by decide +kernel) ?_
    show mp_W E X 4 1986 [(3, .int 0), (2, .ref q2), (1, .ref q1), (0, .ref b)] [.int (xs 1), .ref q2, .int 0] [(q2, .inr (10, [.int 0, .ref (mm 1), .ref (mm 2), .ref (mm 3), .ref (mm 4), .ref (mm 5), .int 0, .int 0, .int 0, .int 0, .int 0, .long 0, .int 0, .int 0, .int 0, .int (-1), .ref (mm 6), .ref (mm 7), .ref (mm 8), .ref (mm 9), .ref (mm 10), .ref (mm 11), .ref (mm 12), .ref (mm 13), .int 0, .ref (mm 14), .ref (mm 15), .ref (mm 16), .ref (mm 17), .int 0, .int 0, .int 0, .ref (mm 18), .ref (mm 19), .int 0, .int 0, .ref (mm 20), .ref (mm 21), .ref (mm 22), .int 0, .int 0, .int 0, .int 0, .ref (mm 23), .ref (mm 24), .ref (mm 25), .int 0])), ((mm 1), .inl (E.2.2 0, 4, .inl wd)), ((mm 6), .inl (E.2.2 0, 5, .inl (fun _ => 0))), ((mm 7), .inl (E.2.2 0, 25, .inl (fun _ => 0))), ((mm 8), .inl (E.2.2 0, 180, .inl (fun _ => 0))), ((mm 9), .inl (E.2.2 3, 3000, .inl (fun _ => 0)))] 84 11441
    refine mp_callV hF (As := [.int (xs 1)]) (rest := [.int 0]) (wr := []) (aX10_count_177 E q2 (mm 1) (mm 6) (mm 7) (mm 8) (mm 9) (mm 2) (mm 3) (mm 4) (mm 5) (mm 10) (mm 11) (mm 12) (mm 13) (mm 14) (mm 15) (mm 16) (mm 17) (mm 18) (mm 19) (mm 20) (mm 21) (mm 22) (mm 23) (mm 24) (mm 25) wd (xs 1) hwd) mp_lkL_239 0 rfl [0, 1, 2, 3, 4, 5] [] rfl rfl rfl rfl rfl ⟨(Nat.le_of_ble_eq_true rfl), (Nat.le_of_ble_eq_true rfl), (Nat.le_of_ble_eq_true rfl), (Nat.le_of_ble_eq_true rfl)⟩ (Nat.le_of_ble_eq_true rfl) (by decide +kernel) (fun v56 w57 h58 => ?_)
    rcases h58 with ⟨rfl, c59, rfl⟩ | ⟨rfl, c60, rfl⟩ | ⟨rfl, c61, rfl⟩ | ⟨rfl, c62, rfl⟩ | ⟨rfl, c63, rfl⟩ | ⟨rfl, c64, rfl⟩ | ⟨rfl, c65, rfl⟩ | ⟨rfl, c66, rfl⟩ | ⟨rfl, c67, rfl⟩ | ⟨rfl, c68, rfl⟩ | ⟨rfl, c69, rfl⟩ | ⟨rfl, c70, rfl⟩
    · skip
      have c59 : (xs 1).toInt < 0 := c59
      exfalso; omega
    · skip
      have c60 : 9 < (xs 1).toInt := c60
      exfalso; omega
    · skip
      have c61 : (xs 1).toInt = 0 := c61
      show mp_W E X 4 1989 [(3, .int 0), (2, .ref q2), (1, .ref q1), (0, .ref b)] [.int 0, .int 0] [] 84 11441
      refine mp_run hF mp_tabL_ok [mp_h (.if_icmp .eq 230) [2219]] (by decide +kernel) ?_
      refine And.intro (fun _ => ?_) (fun c71 => absurd c71 (by decide))
      show mp_W E X 4 2219 [(3, .int 0), (2, .ref q2), (1, .ref q1), (0, .ref b)] [] [] 84 11441
      exact mp_sub [3, 0] rfl [] rfl rfl (mp_lw_next hL (Nat.le_of_ble_eq_true rfl) (Nat.le_of_ble_eq_true rfl))
    · skip
      have c62 : (xs 1).toInt = 1 := c62
      exfalso; omega
    · skip
      have c63 : (xs 1).toInt = 2 := c63
      exfalso; omega
    · skip
      have c64 : (xs 1).toInt = 3 := c64
      exfalso; omega
    · skip
      have c65 : (xs 1).toInt = 4 := c65
      exfalso; omega
    · skip
      have c66 : (xs 1).toInt = 5 := c66
      exfalso; omega
    · skip
      have c67 : (xs 1).toInt = 6 := c67
      exfalso; omega
    · skip
      have c68 : (xs 1).toInt = 7 := c68
      exfalso; omega
    · skip
      have c69 : (xs 1).toInt = 8 := c69
      exfalso; omega
    · skip
      have c70 : (xs 1).toInt = 9 := c70
      exfalso; omega
  · skip
    have c9 : (xs 1).toInt = 1 := c9
    show mp_W E X 4 1980 [(3, .int 0), (2, .ref q2), (1, .ref q1), (0, .ref b)] [.int 0] [(q2, .inr (10, [.int 0, .ref (mm 1), .ref (mm 2), .ref (mm 3), .ref (mm 4), .ref (mm 5), .int 0, .int 0, .int 0, .int 0, .int 0, .long 0, .int 0, .int 0, .int 0, .int (-1), .ref (mm 6), .ref (mm 7), .ref (mm 8), .ref (mm 9), .ref (mm 10), .ref (mm 11), .ref (mm 12), .ref (mm 13), .int 0, .ref (mm 14), .ref (mm 15), .ref (mm 16), .ref (mm 17), .int 0, .int 0, .int 0, .ref (mm 18), .ref (mm 19), .int 0, .int 0, .ref (mm 20), .ref (mm 21), .ref (mm 22), .int 0, .int 0, .int 0, .int 0, .ref (mm 23), .ref (mm 24), .ref (mm 25), .int 0])), ((mm 1), .inl (E.2.2 0, 4, .inl wd)), ((mm 6), .inl (E.2.2 0, 5, .inl (fun _ => 0))), ((mm 7), .inl (E.2.2 0, 25, .inl (fun _ => 0))), ((mm 8), .inl (E.2.2 0, 180, .inl (fun _ => 0))), ((mm 9), .inl (E.2.2 3, 3000, .inl (fun _ => 0)))] 84 11441
    refine mp_run hF mp_tabL_ok [mp_i (.aload_n 2), mp_i (.aload_n 0), mp_i (.iload_n 3), mp_c (.iconst 1) 1, mp_i .iadd] (by decide +kernel) ?_
    intro z72 h73
    obtain rfl : z72 = 1 := h73.trans (by decide)
    show mp_W E X 4 1985 [(3, .int 0), (2, .ref q2), (1, .ref q1), (0, .ref b)] [.int 1, .ref b, .ref q2, .int 0] [(q2, .inr (10, [.int 0, .ref (mm 1), .ref (mm 2), .ref (mm 3), .ref (mm 4), .ref (mm 5), .int 0, .int 0, .int 0, .int 0, .int 0, .long 0, .int 0, .int 0, .int 0, .int (-1), .ref (mm 6), .ref (mm 7), .ref (mm 8), .ref (mm 9), .ref (mm 10), .ref (mm 11), .ref (mm 12), .ref (mm 13), .int 0, .ref (mm 14), .ref (mm 15), .ref (mm 16), .ref (mm 17), .int 0, .int 0, .int 0, .ref (mm 18), .ref (mm 19), .int 0, .int 0, .ref (mm 20), .ref (mm 21), .ref (mm 22), .int 0, .int 0, .int 0, .int 0, .ref (mm 23), .ref (mm 24), .ref (mm 25), .int 0])), ((mm 1), .inl (E.2.2 0, 4, .inl wd)), ((mm 6), .inl (E.2.2 0, 5, .inl (fun _ => 0))), ((mm 7), .inl (E.2.2 0, 25, .inl (fun _ => 0))), ((mm 8), .inl (E.2.2 0, 180, .inl (fun _ => 0))), ((mm 9), .inl (E.2.2 3, 3000, .inl (fun _ => 0)))] 84 11441
    refine mp_lsld hL 1 (by decide) (by decide) (by decide) (by decide +kernel) ?_
    show mp_W E X 4 1986 [(3, .int 0), (2, .ref q2), (1, .ref q1), (0, .ref b)] [.int (xs 1), .ref q2, .int 0] [(q2, .inr (10, [.int 0, .ref (mm 1), .ref (mm 2), .ref (mm 3), .ref (mm 4), .ref (mm 5), .int 0, .int 0, .int 0, .int 0, .int 0, .long 0, .int 0, .int 0, .int 0, .int (-1), .ref (mm 6), .ref (mm 7), .ref (mm 8), .ref (mm 9), .ref (mm 10), .ref (mm 11), .ref (mm 12), .ref (mm 13), .int 0, .ref (mm 14), .ref (mm 15), .ref (mm 16), .ref (mm 17), .int 0, .int 0, .int 0, .ref (mm 18), .ref (mm 19), .int 0, .int 0, .ref (mm 20), .ref (mm 21), .ref (mm 22), .int 0, .int 0, .int 0, .int 0, .ref (mm 23), .ref (mm 24), .ref (mm 25), .int 0])), ((mm 1), .inl (E.2.2 0, 4, .inl wd)), ((mm 6), .inl (E.2.2 0, 5, .inl (fun _ => 0))), ((mm 7), .inl (E.2.2 0, 25, .inl (fun _ => 0))), ((mm 8), .inl (E.2.2 0, 180, .inl (fun _ => 0))), ((mm 9), .inl (E.2.2 3, 3000, .inl (fun _ => 0)))] 84 11441
    refine mp_callV hF (As := [.int (xs 1)]) (rest := [.int 0]) (wr := []) (aX10_count_177 E q2 (mm 1) (mm 6) (mm 7) (mm 8) (mm 9) (mm 2) (mm 3) (mm 4) (mm 5) (mm 10) (mm 11) (mm 12) (mm 13) (mm 14) (mm 15) (mm 16) (mm 17) (mm 18) (mm 19) (mm 20) (mm 21) (mm 22) (mm 23) (mm 24) (mm 25) wd (xs 1) hwd) mp_lkL_239 0 rfl [0, 1, 2, 3, 4, 5] [] rfl rfl rfl rfl rfl ⟨(Nat.le_of_ble_eq_true rfl), (Nat.le_of_ble_eq_true rfl), (Nat.le_of_ble_eq_true rfl), (Nat.le_of_ble_eq_true rfl)⟩ (Nat.le_of_ble_eq_true rfl) (by decide +kernel) (fun v74 w75 h76 => ?_)
    rcases h76 with ⟨rfl, c77, rfl⟩ | ⟨rfl, c78, rfl⟩ | ⟨rfl, c79, rfl⟩ | ⟨rfl, c80, rfl⟩ | ⟨rfl, c81, rfl⟩ | ⟨rfl, c82, rfl⟩ | ⟨rfl, c83, rfl⟩ | ⟨rfl, c84, rfl⟩ | ⟨rfl, c85, rfl⟩ | ⟨rfl, c86, rfl⟩ | ⟨rfl, c87, rfl⟩ | ⟨rfl, c88, rfl⟩
    · skip
      have c77 : (xs 1).toInt < 0 := c77
      exfalso; omega
    · skip
      have c78 : 9 < (xs 1).toInt := c78
      exfalso; omega
    · skip
      have c79 : (xs 1).toInt = 0 := c79
      exfalso; omega
    · skip
      have c80 : (xs 1).toInt = 1 := c80
      show mp_W E X 4 1989 [(3, .int 0), (2, .ref q2), (1, .ref q1), (0, .ref b)] [.int 0, .int 0] [] 84 11441
      refine mp_run hF mp_tabL_ok [mp_h (.if_icmp .eq 230) [2219]] (by decide +kernel) ?_
      refine And.intro (fun _ => ?_) (fun c89 => absurd c89 (by decide))
      show mp_W E X 4 2219 [(3, .int 0), (2, .ref q2), (1, .ref q1), (0, .ref b)] [] [] 84 11441
      exact mp_sub [3, 0] rfl [] rfl rfl (mp_lw_next hL (Nat.le_of_ble_eq_true rfl) (Nat.le_of_ble_eq_true rfl))
    · skip
      have c81 : (xs 1).toInt = 2 := c81
      exfalso; omega
    · skip
      have c82 : (xs 1).toInt = 3 := c82
      exfalso; omega
    · skip
      have c83 : (xs 1).toInt = 4 := c83
      exfalso; omega
    · skip
      have c84 : (xs 1).toInt = 5 := c84
      exfalso; omega
    · skip
      have c85 : (xs 1).toInt = 6 := c85
      exfalso; omega
    · skip
      have c86 : (xs 1).toInt = 7 := c86
      exfalso; omega
    · skip
      have c87 : (xs 1).toInt = 8 := c87
      exfalso; omega
    · skip
      have c88 : (xs 1).toInt = 9 := c88
      exfalso; omega
  · skip
    have c10 : (xs 1).toInt = 2 := c10
    show mp_W E X 4 1980 [(3, .int 0), (2, .ref q2), (1, .ref q1), (0, .ref b)] [.int 0] [(q2, .inr (10, [.int 0, .ref (mm 1), .ref (mm 2), .ref (mm 3), .ref (mm 4), .ref (mm 5), .int 0, .int 0, .int 0, .int 0, .int 0, .long 0, .int 0, .int 0, .int 0, .int (-1), .ref (mm 6), .ref (mm 7), .ref (mm 8), .ref (mm 9), .ref (mm 10), .ref (mm 11), .ref (mm 12), .ref (mm 13), .int 0, .ref (mm 14), .ref (mm 15), .ref (mm 16), .ref (mm 17), .int 0, .int 0, .int 0, .ref (mm 18), .ref (mm 19), .int 0, .int 0, .ref (mm 20), .ref (mm 21), .ref (mm 22), .int 0, .int 0, .int 0, .int 0, .ref (mm 23), .ref (mm 24), .ref (mm 25), .int 0])), ((mm 1), .inl (E.2.2 0, 4, .inl wd)), ((mm 6), .inl (E.2.2 0, 5, .inl (fun _ => 0))), ((mm 7), .inl (E.2.2 0, 25, .inl (fun _ => 0))), ((mm 8), .inl (E.2.2 0, 180, .inl (fun _ => 0))), ((mm 9), .inl (E.2.2 3, 3000, .inl (fun _ => 0)))] 84 11441
    refine mp_run hF mp_tabL_ok [mp_i (.aload_n 2), mp_i (.aload_n 0), mp_i (.iload_n 3), mp_c (.iconst 1) 1, mp_i .iadd] (by decide +kernel) ?_
    intro z90 h91
    obtain rfl : z90 = 1 := h91.trans (by decide)
    show mp_W E X 4 1985 [(3, .int 0), (2, .ref q2), (1, .ref q1), (0, .ref b)] [.int 1, .ref b, .ref q2, .int 0] [(q2, .inr (10, [.int 0, .ref (mm 1), .ref (mm 2), .ref (mm 3), .ref (mm 4), .ref (mm 5), .int 0, .int 0, .int 0, .int 0, .int 0, .long 0, .int 0, .int 0, .int 0, .int (-1), .ref (mm 6), .ref (mm 7), .ref (mm 8), .ref (mm 9), .ref (mm 10), .ref (mm 11), .ref (mm 12), .ref (mm 13), .int 0, .ref (mm 14), .ref (mm 15), .ref (mm 16), .ref (mm 17), .int 0, .int 0, .int 0, .ref (mm 18), .ref (mm 19), .int 0, .int 0, .ref (mm 20), .ref (mm 21), .ref (mm 22), .int 0, .int 0, .int 0, .int 0, .ref (mm 23), .ref (mm 24), .ref (mm 25), .int 0])), ((mm 1), .inl (E.2.2 0, 4, .inl wd)), ((mm 6), .inl (E.2.2 0, 5, .inl (fun _ => 0))), ((mm 7), .inl (E.2.2 0, 25, .inl (fun _ => 0))), ((mm 8), .inl (E.2.2 0, 180, .inl (fun _ => 0))), ((mm 9), .inl (E.2.2 3, 3000, .inl (fun _ => 0)))] 84 11441
    refine mp_lsld hL 1 (by decide) (by decide) (by decide) (by decide +kernel) ?_
    show mp_W E X 4 1986 [(3, .int 0), (2, .ref q2), (1, .ref q1), (0, .ref b)] [.int (xs 1), .ref q2, .int 0] [(q2, .inr (10, [.int 0, .ref (mm 1), .ref (mm 2), .ref (mm 3), .ref (mm 4), .ref (mm 5), .int 0, .int 0, .int 0, .int 0, .int 0, .long 0, .int 0, .int 0, .int 0, .int (-1), .ref (mm 6), .ref (mm 7), .ref (mm 8), .ref (mm 9), .ref (mm 10), .ref (mm 11), .ref (mm 12), .ref (mm 13), .int 0, .ref (mm 14), .ref (mm 15), .ref (mm 16), .ref (mm 17), .int 0, .int 0, .int 0, .ref (mm 18), .ref (mm 19), .int 0, .int 0, .ref (mm 20), .ref (mm 21), .ref (mm 22), .int 0, .int 0, .int 0, .int 0, .ref (mm 23), .ref (mm 24), .ref (mm 25), .int 0])), ((mm 1), .inl (E.2.2 0, 4, .inl wd)), ((mm 6), .inl (E.2.2 0, 5, .inl (fun _ => 0))), ((mm 7), .inl (E.2.2 0, 25, .inl (fun _ => 0))), ((mm 8), .inl (E.2.2 0, 180, .inl (fun _ => 0))), ((mm 9), .inl (E.2.2 3, 3000, .inl (fun _ => 0)))] 84 11441
    refine mp_callV hF (As := [.int (xs 1)]) (rest := [.int 0]) (wr := []) (aX10_count_177 E q2 (mm 1) (mm 6) (mm 7) (mm 8) (mm 9) (mm 2) (mm 3) (mm 4) (mm 5) (mm 10) (mm 11) (mm 12) (mm 13) (mm 14) (mm 15) (mm 16) (mm 17) (mm 18) (mm 19) (mm 20) (mm 21) (mm 22) (mm 23) (mm 24) (mm 25) wd (xs 1) hwd) mp_lkL_239 0 rfl [0, 1, 2, 3, 4, 5] [] rfl rfl rfl rfl rfl ⟨(Nat.le_of_ble_eq_true rfl), (Nat.le_of_ble_eq_true rfl), (Nat.le_of_ble_eq_true rfl), (Nat.le_of_ble_eq_true rfl)⟩ (Nat.le_of_ble_eq_true rfl) (by decide +kernel) (fun v92 w93 h94 => ?_)
    rcases h94 with ⟨rfl, c95, rfl⟩ | ⟨rfl, c96, rfl⟩ | ⟨rfl, c97, rfl⟩ | ⟨rfl, c98, rfl⟩ | ⟨rfl, c99, rfl⟩ | ⟨rfl, c100, rfl⟩ | ⟨rfl, c101, rfl⟩ | ⟨rfl, c102, rfl⟩ | ⟨rfl, c103, rfl⟩ | ⟨rfl, c104, rfl⟩ | ⟨rfl, c105, rfl⟩ | ⟨rfl, c106, rfl⟩
    · skip
      have c95 : (xs 1).toInt < 0 := c95
      exfalso; omega
    · skip
      have c96 : 9 < (xs 1).toInt := c96
      exfalso; omega
    · skip
      have c97 : (xs 1).toInt = 0 := c97
      exfalso; omega
    · skip
      have c98 : (xs 1).toInt = 1 := c98
      exfalso; omega
    · skip
      have c99 : (xs 1).toInt = 2 := c99
      show mp_W E X 4 1989 [(3, .int 0), (2, .ref q2), (1, .ref q1), (0, .ref b)] [.int 0, .int 0] [] 84 11441
      refine mp_run hF mp_tabL_ok [mp_h (.if_icmp .eq 230) [2219]] (by decide +kernel) ?_
      refine And.intro (fun _ => ?_) (fun c107 => absurd c107 (by decide))
      show mp_W E X 4 2219 [(3, .int 0), (2, .ref q2), (1, .ref q1), (0, .ref b)] [] [] 84 11441
      exact mp_sub [3, 0] rfl [] rfl rfl (mp_lw_next hL (Nat.le_of_ble_eq_true rfl) (Nat.le_of_ble_eq_true rfl))
    · skip
      have c100 : (xs 1).toInt = 3 := c100
      exfalso; omega
    · skip
      have c101 : (xs 1).toInt = 4 := c101
      exfalso; omega
    · skip
      have c102 : (xs 1).toInt = 5 := c102
      exfalso; omega
    · skip
      have c103 : (xs 1).toInt = 6 := c103
      exfalso; omega
    · skip
      have c104 : (xs 1).toInt = 7 := c104
      exfalso; omega
    · skip
      have c105 : (xs 1).toInt = 8 := c105
      exfalso; omega
    · skip
      have c106 : (xs 1).toInt = 9 := c106
      exfalso; omega
  · skip
    have c11 : (xs 1).toInt = 3 := c11
    show mp_W E X 4 1980 [(3, .int 0), (2, .ref q2), (1, .ref q1), (0, .ref b)] [.int 0] [(q2, .inr (10, [.int 0, .ref (mm 1), .ref (mm 2), .ref (mm 3), .ref (mm 4), .ref (mm 5), .int 0, .int 0, .int 0, .int 0, .int 0, .long 0, .int 0, .int 0, .int 0, .int (-1), .ref (mm 6), .ref (mm 7), .ref (mm 8), .ref (mm 9), .ref (mm 10), .ref (mm 11), .ref (mm 12), .ref (mm 13), .int 0, .ref (mm 14), .ref (mm 15), .ref (mm 16), .ref (mm 17), .int 0, .int 0, .int 0, .ref (mm 18), .ref (mm 19), .int 0, .int 0, .ref (mm 20), .ref (mm 21), .ref (mm 22), .int 0, .int 0, .int 0, .int 0, .ref (mm 23), .ref (mm 24), .ref (mm 25), .int 0])), ((mm 1), .inl (E.2.2 0, 4, .inl wd)), ((mm 6), .inl (E.2.2 0, 5, .inl (fun _ => 0))), ((mm 7), .inl (E.2.2 0, 25, .inl (fun _ => 0))), ((mm 8), .inl (E.2.2 0, 180, .inl (fun _ => 0))), ((mm 9), .inl (E.2.2 3, 3000, .inl (fun _ => 0)))] 84 11441
    refine mp_run hF mp_tabL_ok [mp_i (.aload_n 2), mp_i (.aload_n 0), mp_i (.iload_n 3), mp_c (.iconst 1) 1, mp_i .iadd] (by decide +kernel) ?_
    intro z108 h109
    obtain rfl : z108 = 1 := h109.trans (by decide)
    show mp_W E X 4 1985 [(3, .int 0), (2, .ref q2), (1, .ref q1), (0, .ref b)] [.int 1, .ref b, .ref q2, .int 0] [(q2, .inr (10, [.int 0, .ref (mm 1), .ref (mm 2), .ref (mm 3), .ref (mm 4), .ref (mm 5), .int 0, .int 0, .int 0, .int 0, .int 0, .long 0, .int 0, .int 0, .int 0, .int (-1), .ref (mm 6), .ref (mm 7), .ref (mm 8), .ref (mm 9), .ref (mm 10), .ref (mm 11), .ref (mm 12), .ref (mm 13), .int 0, .ref (mm 14), .ref (mm 15), .ref (mm 16), .ref (mm 17), .int 0, .int 0, .int 0, .ref (mm 18), .ref (mm 19), .int 0, .int 0, .ref (mm 20), .ref (mm 21), .ref (mm 22), .int 0, .int 0, .int 0, .int 0, .ref (mm 23), .ref (mm 24), .ref (mm 25), .int 0])), ((mm 1), .inl (E.2.2 0, 4, .inl wd)), ((mm 6), .inl (E.2.2 0, 5, .inl (fun _ => 0))), ((mm 7), .inl (E.2.2 0, 25, .inl (fun _ => 0))), ((mm 8), .inl (E.2.2 0, 180, .inl (fun _ => 0))), ((mm 9), .inl (E.2.2 3, 3000, .inl (fun _ => 0)))] 84 11441
    refine mp_lsld hL 1 (by decide) (by decide) (by decide) (by decide +kernel) ?_
    show mp_W E X 4 1986 [(3, .int 0), (2, .ref q2), (1, .ref q1), (0, .ref b)] [.int (xs 1), .ref q2, .int 0] [(q2, .inr (10, [.int 0, .ref (mm 1), .ref (mm 2), .ref (mm 3), .ref (mm 4), .ref (mm 5), .int 0, .int 0, .int 0, .int 0, .int 0, .long 0, .int 0, .int 0, .int 0, .int (-1), .ref (mm 6), .ref (mm 7), .ref (mm 8), .ref (mm 9), .ref (mm 10), .ref (mm 11), .ref (mm 12), .ref (mm 13), .int 0, .ref (mm 14), .ref (mm 15), .ref (mm 16), .ref (mm 17), .int 0, .int 0, .int 0, .ref (mm 18), .ref (mm 19), .int 0, .int 0, .ref (mm 20), .ref (mm 21), .ref (mm 22), .int 0, .int 0, .int 0, .int 0, .ref (mm 23), .ref (mm 24), .ref (mm 25), .int 0])), ((mm 1), .inl (E.2.2 0, 4, .inl wd)), ((mm 6), .inl (E.2.2 0, 5, .inl (fun _ => 0))), ((mm 7), .inl (E.2.2 0, 25, .inl (fun _ => 0))), ((mm 8), .inl (E.2.2 0, 180, .inl (fun _ => 0))), ((mm 9), .inl (E.2.2 3, 3000, .inl (fun _ => 0)))] 84 11441
    refine mp_callV hF (As := [.int (xs 1)]) (rest := [.int 0]) (wr := []) (aX10_count_177 E q2 (mm 1) (mm 6) (mm 7) (mm 8) (mm 9) (mm 2) (mm 3) (mm 4) (mm 5) (mm 10) (mm 11) (mm 12) (mm 13) (mm 14) (mm 15) (mm 16) (mm 17) (mm 18) (mm 19) (mm 20) (mm 21) (mm 22) (mm 23) (mm 24) (mm 25) wd (xs 1) hwd) mp_lkL_239 0 rfl [0, 1, 2, 3, 4, 5] [] rfl rfl rfl rfl rfl ⟨(Nat.le_of_ble_eq_true rfl), (Nat.le_of_ble_eq_true rfl), (Nat.le_of_ble_eq_true rfl), (Nat.le_of_ble_eq_true rfl)⟩ (Nat.le_of_ble_eq_true rfl) (by decide +kernel) (fun v110 w111 h112 => ?_)
    rcases h112 with ⟨rfl, c113, rfl⟩ | ⟨rfl, c114, rfl⟩ | ⟨rfl, c115, rfl⟩ | ⟨rfl, c116, rfl⟩ | ⟨rfl, c117, rfl⟩ | ⟨rfl, c118, rfl⟩ | ⟨rfl, c119, rfl⟩ | ⟨rfl, c120, rfl⟩ | ⟨rfl, c121, rfl⟩ | ⟨rfl, c122, rfl⟩ | ⟨rfl, c123, rfl⟩ | ⟨rfl, c124, rfl⟩
    · skip
      have c113 : (xs 1).toInt < 0 := c113
      exfalso; omega
    · skip
      have c114 : 9 < (xs 1).toInt := c114
      exfalso; omega
    · skip
      have c115 : (xs 1).toInt = 0 := c115
      exfalso; omega
    · skip
      have c116 : (xs 1).toInt = 1 := c116
      exfalso; omega
    · skip
      have c117 : (xs 1).toInt = 2 := c117
      exfalso; omega
    · skip
      have c118 : (xs 1).toInt = 3 := c118
      show mp_W E X 4 1989 [(3, .int 0), (2, .ref q2), (1, .ref q1), (0, .ref b)] [.int 0, .int 0] [] 84 11441
      refine mp_run hF mp_tabL_ok [mp_h (.if_icmp .eq 230) [2219]] (by decide +kernel) ?_
      refine And.intro (fun _ => ?_) (fun c125 => absurd c125 (by decide))
      show mp_W E X 4 2219 [(3, .int 0), (2, .ref q2), (1, .ref q1), (0, .ref b)] [] [] 84 11441
      exact mp_sub [3, 0] rfl [] rfl rfl (mp_lw_next hL (Nat.le_of_ble_eq_true rfl) (Nat.le_of_ble_eq_true rfl))
    · skip
      have c119 : (xs 1).toInt = 4 := c119
      exfalso; omega
    · skip
      have c120 : (xs 1).toInt = 5 := c120
      exfalso; omega
    · skip
      have c121 : (xs 1).toInt = 6 := c121
      exfalso; omega
    · skip
      have c122 : (xs 1).toInt = 7 := c122
      exfalso; omega
    · skip
      have c123 : (xs 1).toInt = 8 := c123
      exfalso; omega
    · skip
      have c124 : (xs 1).toInt = 9 := c124
      exfalso; omega
  · skip
    have c12 : (xs 1).toInt = 4 := c12
    show mp_W E X 4 1980 [(3, .int 0), (2, .ref q2), (1, .ref q1), (0, .ref b)] [.int 0] [(q2, .inr (10, [.int 0, .ref (mm 1), .ref (mm 2), .ref (mm 3), .ref (mm 4), .ref (mm 5), .int 0, .int 0, .int 0, .int 0, .int 0, .long 0, .int 0, .int 0, .int 0, .int (-1), .ref (mm 6), .ref (mm 7), .ref (mm 8), .ref (mm 9), .ref (mm 10), .ref (mm 11), .ref (mm 12), .ref (mm 13), .int 0, .ref (mm 14), .ref (mm 15), .ref (mm 16), .ref (mm 17), .int 0, .int 0, .int 0, .ref (mm 18), .ref (mm 19), .int 0, .int 0, .ref (mm 20), .ref (mm 21), .ref (mm 22), .int 0, .int 0, .int 0, .int 0, .ref (mm 23), .ref (mm 24), .ref (mm 25), .int 0])), ((mm 1), .inl (E.2.2 0, 4, .inl wd)), ((mm 6), .inl (E.2.2 0, 5, .inl (fun _ => 0))), ((mm 7), .inl (E.2.2 0, 25, .inl (fun _ => 0))), ((mm 8), .inl (E.2.2 0, 180, .inl (fun _ => 0))), ((mm 9), .inl (E.2.2 3, 3000, .inl (fun _ => 0)))] 84 11441
    refine mp_run hF mp_tabL_ok [mp_i (.aload_n 2), mp_i (.aload_n 0), mp_i (.iload_n 3), mp_c (.iconst 1) 1, mp_i .iadd] (by decide +kernel) ?_
    intro z126 h127
    obtain rfl : z126 = 1 := h127.trans (by decide)
    show mp_W E X 4 1985 [(3, .int 0), (2, .ref q2), (1, .ref q1), (0, .ref b)] [.int 1, .ref b, .ref q2, .int 0] [(q2, .inr (10, [.int 0, .ref (mm 1), .ref (mm 2), .ref (mm 3), .ref (mm 4), .ref (mm 5), .int 0, .int 0, .int 0, .int 0, .int 0, .long 0, .int 0, .int 0, .int 0, .int (-1), .ref (mm 6), .ref (mm 7), .ref (mm 8), .ref (mm 9), .ref (mm 10), .ref (mm 11), .ref (mm 12), .ref (mm 13), .int 0, .ref (mm 14), .ref (mm 15), .ref (mm 16), .ref (mm 17), .int 0, .int 0, .int 0, .ref (mm 18), .ref (mm 19), .int 0, .int 0, .ref (mm 20), .ref (mm 21), .ref (mm 22), .int 0, .int 0, .int 0, .int 0, .ref (mm 23), .ref (mm 24), .ref (mm 25), .int 0])), ((mm 1), .inl (E.2.2 0, 4, .inl wd)), ((mm 6), .inl (E.2.2 0, 5, .inl (fun _ => 0))), ((mm 7), .inl (E.2.2 0, 25, .inl (fun _ => 0))), ((mm 8), .inl (E.2.2 0, 180, .inl (fun _ => 0))), ((mm 9), .inl (E.2.2 3, 3000, .inl (fun _ => 0)))] 84 11441
    refine mp_lsld hL 1 (by decide) (by decide) (by decide) (by decide +kernel) ?_
    show mp_W E X 4 1986 [(3, .int 0), (2, .ref q2), (1, .ref q1), (0, .ref b)] [.int (xs 1), .ref q2, .int 0] [(q2, .inr (10, [.int 0, .ref (mm 1), .ref (mm 2), .ref (mm 3), .ref (mm 4), .ref (mm 5), .int 0, .int 0, .int 0, .int 0, .int 0, .long 0, .int 0, .int 0, .int 0, .int (-1), .ref (mm 6), .ref (mm 7), .ref (mm 8), .ref (mm 9), .ref (mm 10), .ref (mm 11), .ref (mm 12), .ref (mm 13), .int 0, .ref (mm 14), .ref (mm 15), .ref (mm 16), .ref (mm 17), .int 0, .int 0, .int 0, .ref (mm 18), .ref (mm 19), .int 0, .int 0, .ref (mm 20), .ref (mm 21), .ref (mm 22), .int 0, .int 0, .int 0, .int 0, .ref (mm 23), .ref (mm 24), .ref (mm 25), .int 0])), ((mm 1), .inl (E.2.2 0, 4, .inl wd)), ((mm 6), .inl (E.2.2 0, 5, .inl (fun _ => 0))), ((mm 7), .inl (E.2.2 0, 25, .inl (fun _ => 0))), ((mm 8), .inl (E.2.2 0, 180, .inl (fun _ => 0))), ((mm 9), .inl (E.2.2 3, 3000, .inl (fun _ => 0)))] 84 11441
    refine mp_callV hF (As := [.int (xs 1)]) (rest := [.int 0]) (wr := []) (aX10_count_177 E q2 (mm 1) (mm 6) (mm 7) (mm 8) (mm 9) (mm 2) (mm 3) (mm 4) (mm 5) (mm 10) (mm 11) (mm 12) (mm 13) (mm 14) (mm 15) (mm 16) (mm 17) (mm 18) (mm 19) (mm 20) (mm 21) (mm 22) (mm 23) (mm 24) (mm 25) wd (xs 1) hwd) mp_lkL_239 0 rfl [0, 1, 2, 3, 4, 5] [] rfl rfl rfl rfl rfl ⟨(Nat.le_of_ble_eq_true rfl), (Nat.le_of_ble_eq_true rfl), (Nat.le_of_ble_eq_true rfl), (Nat.le_of_ble_eq_true rfl)⟩ (Nat.le_of_ble_eq_true rfl) (by decide +kernel) (fun v128 w129 h130 => ?_)
    rcases h130 with ⟨rfl, c131, rfl⟩ | ⟨rfl, c132, rfl⟩ | ⟨rfl, c133, rfl⟩ | ⟨rfl, c134, rfl⟩ | ⟨rfl, c135, rfl⟩ | ⟨rfl, c136, rfl⟩ | ⟨rfl, c137, rfl⟩ | ⟨rfl, c138, rfl⟩ | ⟨rfl, c139, rfl⟩ | ⟨rfl, c140, rfl⟩ | ⟨rfl, c141, rfl⟩ | ⟨rfl, c142, rfl⟩
    · skip
      have c131 : (xs 1).toInt < 0 := c131
      exfalso; omega
    · skip
      have c132 : 9 < (xs 1).toInt := c132
      exfalso; omega
    · skip
      have c133 : (xs 1).toInt = 0 := c133
      exfalso; omega
    · skip
      have c134 : (xs 1).toInt = 1 := c134
      exfalso; omega
    · skip
      have c135 : (xs 1).toInt = 2 := c135
      exfalso; omega
    · skip
      have c136 : (xs 1).toInt = 3 := c136
      exfalso; omega
    · skip
      have c137 : (xs 1).toInt = 4 := c137
      show mp_W E X 4 1989 [(3, .int 0), (2, .ref q2), (1, .ref q1), (0, .ref b)] [.int 0, .int 0] [] 84 11441
      refine mp_run hF mp_tabL_ok [mp_h (.if_icmp .eq 230) [2219]] (by decide +kernel) ?_
      refine And.intro (fun _ => ?_) (fun c143 => absurd c143 (by decide))
      show mp_W E X 4 2219 [(3, .int 0), (2, .ref q2), (1, .ref q1), (0, .ref b)] [] [] 84 11441
      exact mp_sub [3, 0] rfl [] rfl rfl (mp_lw_next hL (Nat.le_of_ble_eq_true rfl) (Nat.le_of_ble_eq_true rfl))
    · skip
      have c138 : (xs 1).toInt = 5 := c138
      exfalso; omega
    · skip
      have c139 : (xs 1).toInt = 6 := c139
      exfalso; omega
    · skip
      have c140 : (xs 1).toInt = 7 := c140
      exfalso; omega
    · skip
      have c141 : (xs 1).toInt = 8 := c141
      exfalso; omega
    · skip
      have c142 : (xs 1).toInt = 9 := c142
      exfalso; omega
  · skip
    have c13 : (xs 1).toInt = 5 := c13
    show mp_W E X 4 1980 [(3, .int 0), (2, .ref q2), (1, .ref q1), (0, .ref b)] [.int 0] [(q2, .inr (10, [.int 0, .ref (mm 1), .ref (mm 2), .ref (mm 3), .ref (mm 4), .ref (mm 5), .int 0, .int 0, .int 0, .int 0, .int 0, .long 0, .int 0, .int 0, .int 0, .int (-1), .ref (mm 6), .ref (mm 7), .ref (mm 8), .ref (mm 9), .ref (mm 10), .ref (mm 11), .ref (mm 12), .ref (mm 13), .int 0, .ref (mm 14), .ref (mm 15), .ref (mm 16), .ref (mm 17), .int 0, .int 0, .int 0, .ref (mm 18), .ref (mm 19), .int 0, .int 0, .ref (mm 20), .ref (mm 21), .ref (mm 22), .int 0, .int 0, .int 0, .int 0, .ref (mm 23), .ref (mm 24), .ref (mm 25), .int 0])), ((mm 1), .inl (E.2.2 0, 4, .inl wd)), ((mm 6), .inl (E.2.2 0, 5, .inl (fun _ => 0))), ((mm 7), .inl (E.2.2 0, 25, .inl (fun _ => 0))), ((mm 8), .inl (E.2.2 0, 180, .inl (fun _ => 0))), ((mm 9), .inl (E.2.2 3, 3000, .inl (fun _ => 0)))] 84 11441
    refine mp_run hF mp_tabL_ok [mp_i (.aload_n 2), mp_i (.aload_n 0), mp_i (.iload_n 3), mp_c (.iconst 1) 1, mp_i .iadd] (by decide +kernel) ?_
    intro z144 h145
    obtain rfl : z144 = 1 := h145.trans (by decide)
    show mp_W E X 4 1985 [(3, .int 0), (2, .ref q2), (1, .ref q1), (0, .ref b)] [.int 1, .ref b, .ref q2, .int 0] [(q2, .inr (10, [.int 0, .ref (mm 1), .ref (mm 2), .ref (mm 3), .ref (mm 4), .ref (mm 5), .int 0, .int 0, .int 0, .int 0, .int 0, .long 0, .int 0, .int 0, .int 0, .int (-1), .ref (mm 6), .ref (mm 7), .ref (mm 8), .ref (mm 9), .ref (mm 10), .ref (mm 11), .ref (mm 12), .ref (mm 13), .int 0, .ref (mm 14), .ref (mm 15), .ref (mm 16), .ref (mm 17), .int 0, .int 0, .int 0, .ref (mm 18), .ref (mm 19), .int 0, .int 0, .ref (mm 20), .ref (mm 21), .ref (mm 22), .int 0, .int 0, .int 0, .int 0, .ref (mm 23), .ref (mm 24), .ref (mm 25), .int 0])), ((mm 1), .inl (E.2.2 0, 4, .inl wd)), ((mm 6), .inl (E.2.2 0, 5, .inl (fun _ => 0))), ((mm 7), .inl (E.2.2 0, 25, .inl (fun _ => 0))), ((mm 8), .inl (E.2.2 0, 180, .inl (fun _ => 0))), ((mm 9), .inl (E.2.2 3, 3000, .inl (fun _ => 0)))] 84 11441
    refine mp_lsld hL 1 (by decide) (by decide) (by decide) (by decide +kernel) ?_
    show mp_W E X 4 1986 [(3, .int 0), (2, .ref q2), (1, .ref q1), (0, .ref b)] [.int (xs 1), .ref q2, .int 0] [(q2, .inr (10, [.int 0, .ref (mm 1), .ref (mm 2), .ref (mm 3), .ref (mm 4), .ref (mm 5), .int 0, .int 0, .int 0, .int 0, .int 0, .long 0, .int 0, .int 0, .int 0, .int (-1), .ref (mm 6), .ref (mm 7), .ref (mm 8), .ref (mm 9), .ref (mm 10), .ref (mm 11), .ref (mm 12), .ref (mm 13), .int 0, .ref (mm 14), .ref (mm 15), .ref (mm 16), .ref (mm 17), .int 0, .int 0, .int 0, .ref (mm 18), .ref (mm 19), .int 0, .int 0, .ref (mm 20), .ref (mm 21), .ref (mm 22), .int 0, .int 0, .int 0, .int 0, .ref (mm 23), .ref (mm 24), .ref (mm 25), .int 0])), ((mm 1), .inl (E.2.2 0, 4, .inl wd)), ((mm 6), .inl (E.2.2 0, 5, .inl (fun _ => 0))), ((mm 7), .inl (E.2.2 0, 25, .inl (fun _ => 0))), ((mm 8), .inl (E.2.2 0, 180, .inl (fun _ => 0))), ((mm 9), .inl (E.2.2 3, 3000, .inl (fun _ => 0)))] 84 11441
    refine mp_callV hF (As := [.int (xs 1)]) (rest := [.int 0]) (wr := []) (aX10_count_177 E q2 (mm 1) (mm 6) (mm 7) (mm 8) (mm 9) (mm 2) (mm 3) (mm 4) (mm 5) (mm 10) (mm 11) (mm 12) (mm 13) (mm 14) (mm 15) (mm 16) (mm 17) (mm 18) (mm 19) (mm 20) (mm 21) (mm 22) (mm 23) (mm 24) (mm 25) wd (xs 1) hwd) mp_lkL_239 0 rfl [0, 1, 2, 3, 4, 5] [] rfl rfl rfl rfl rfl ⟨(Nat.le_of_ble_eq_true rfl), (Nat.le_of_ble_eq_true rfl), (Nat.le_of_ble_eq_true rfl), (Nat.le_of_ble_eq_true rfl)⟩ (Nat.le_of_ble_eq_true rfl) (by decide +kernel) (fun v146 w147 h148 => ?_)
    rcases h148 with ⟨rfl, c149, rfl⟩ | ⟨rfl, c150, rfl⟩ | ⟨rfl, c151, rfl⟩ | ⟨rfl, c152, rfl⟩ | ⟨rfl, c153, rfl⟩ | ⟨rfl, c154, rfl⟩ | ⟨rfl, c155, rfl⟩ | ⟨rfl, c156, rfl⟩ | ⟨rfl, c157, rfl⟩ | ⟨rfl, c158, rfl⟩ | ⟨rfl, c159, rfl⟩ | ⟨rfl, c160, rfl⟩
    · skip
      have c149 : (xs 1).toInt < 0 := c149
      exfalso; omega
    · skip
      have c150 : 9 < (xs 1).toInt := c150
      exfalso; omega
    · skip
      have c151 : (xs 1).toInt = 0 := c151
      exfalso; omega
    · skip
      have c152 : (xs 1).toInt = 1 := c152
      exfalso; omega
    · skip
      have c153 : (xs 1).toInt = 2 := c153
      exfalso; omega
    · skip
      have c154 : (xs 1).toInt = 3 := c154
      exfalso; omega
    · skip
      have c155 : (xs 1).toInt = 4 := c155
      exfalso; omega
    · skip
      have c156 : (xs 1).toInt = 5 := c156
      show mp_W E X 4 1989 [(3, .int 0), (2, .ref q2), (1, .ref q1), (0, .ref b)] [.int 0, .int 0] [] 84 11441
      refine mp_run hF mp_tabL_ok [mp_h (.if_icmp .eq 230) [2219]] (by decide +kernel) ?_
      refine And.intro (fun _ => ?_) (fun c161 => absurd c161 (by decide))
      show mp_W E X 4 2219 [(3, .int 0), (2, .ref q2), (1, .ref q1), (0, .ref b)] [] [] 84 11441
      exact mp_sub [3, 0] rfl [] rfl rfl (mp_lw_next hL (Nat.le_of_ble_eq_true rfl) (Nat.le_of_ble_eq_true rfl))
    · skip
      have c157 : (xs 1).toInt = 6 := c157
      exfalso; omega
    · skip
      have c158 : (xs 1).toInt = 7 := c158
      exfalso; omega
    · skip
      have c159 : (xs 1).toInt = 8 := c159
      exfalso; omega
    · skip
      have c160 : (xs 1).toInt = 9 := c160
      exfalso; omega
  · skip
    have c14 : (xs 1).toInt = 6 := c14
    show mp_W E X 4 1980 [(3, .int 0), (2, .ref q2), (1, .ref q1), (0, .ref b)] [.int 0] [(q2, .inr (10, [.int 0, .ref (mm 1), .ref (mm 2), .ref (mm 3), .ref (mm 4), .ref (mm 5), .int 0, .int 0, .int 0, .int 0, .int 0, .long 0, .int 0, .int 0, .int 0, .int (-1), .ref (mm 6), .ref (mm 7), .ref (mm 8), .ref (mm 9), .ref (mm 10), .ref (mm 11), .ref (mm 12), .ref (mm 13), .int 0, .ref (mm 14), .ref (mm 15), .ref (mm 16), .ref (mm 17), .int 0, .int 0, .int 0, .ref (mm 18), .ref (mm 19), .int 0, .int 0, .ref (mm 20), .ref (mm 21), .ref (mm 22), .int 0, .int 0, .int 0, .int 0, .ref (mm 23), .ref (mm 24), .ref (mm 25), .int 0])), ((mm 1), .inl (E.2.2 0, 4, .inl wd)), ((mm 6), .inl (E.2.2 0, 5, .inl (fun _ => 0))), ((mm 7), .inl (E.2.2 0, 25, .inl (fun _ => 0))), ((mm 8), .inl (E.2.2 0, 180, .inl (fun _ => 0))), ((mm 9), .inl (E.2.2 3, 3000, .inl (fun _ => 0)))] 84 11441
    refine mp_run hF mp_tabL_ok [mp_i (.aload_n 2), mp_i (.aload_n 0), mp_i (.iload_n 3), mp_c (.iconst 1) 1, mp_i .iadd] (by decide +kernel) ?_
    intro z162 h163
    obtain rfl : z162 = 1 := h163.trans (by decide)
    show mp_W E X 4 1985 [(3, .int 0), (2, .ref q2), (1, .ref q1), (0, .ref b)] [.int 1, .ref b, .ref q2, .int 0] [(q2, .inr (10, [.int 0, .ref (mm 1), .ref (mm 2), .ref (mm 3), .ref (mm 4), .ref (mm 5), .int 0, .int 0, .int 0, .int 0, .int 0, .long 0, .int 0, .int 0, .int 0, .int (-1), .ref (mm 6), .ref (mm 7), .ref (mm 8), .ref (mm 9), .ref (mm 10), .ref (mm 11), .ref (mm 12), .ref (mm 13), .int 0, .ref (mm 14), .ref (mm 15), .ref (mm 16), .ref (mm 17), .int 0, .int 0, .int 0, .ref (mm 18), .ref (mm 19), .int 0, .int 0, .ref (mm 20), .ref (mm 21), .ref (mm 22), .int 0, .int 0, .int 0, .int 0, .ref (mm 23), .ref (mm 24), .ref (mm 25), .int 0])), ((mm 1), .inl (E.2.2 0, 4, .inl wd)), ((mm 6), .inl (E.2.2 0, 5, .inl (fun _ => 0))), ((mm 7), .inl (E.2.2 0, 25, .inl (fun _ => 0))), ((mm 8), .inl (E.2.2 0, 180, .inl (fun _ => 0))), ((mm 9), .inl (E.2.2 3, 3000, .inl (fun _ => 0)))] 84 11441
    refine mp_lsld hL 1 (by decide) (by decide) (by decide) (by decide +kernel) ?_
    show mp_W E X 4 1986 [(3, .int 0), (2, .ref q2), (1, .ref q1), (0, .ref b)] [.int (xs 1), .ref q2, .int 0] [(q2, .inr (10, [.int 0, .ref (mm 1), .ref (mm 2), .ref (mm 3), .ref (mm 4), .ref (mm 5), .int 0, .int 0, .int 0, .int 0, .int 0, .long 0, .int 0, .int 0, .int 0, .int (-1), .ref (mm 6), .ref (mm 7), .ref (mm 8), .ref (mm 9), .ref (mm 10), .ref (mm 11), .ref (mm 12), .ref (mm 13), .int 0, .ref (mm 14), .ref (mm 15), .ref (mm 16), .ref (mm 17), .int 0, .int 0, .int 0, .ref (mm 18), .ref (mm 19), .int 0, .int 0, .ref (mm 20), .ref (mm 21), .ref (mm 22), .int 0, .int 0, .int 0, .int 0, .ref (mm 23), .ref (mm 24), .ref (mm 25), .int 0])), ((mm 1), .inl (E.2.2 0, 4, .inl wd)), ((mm 6), .inl (E.2.2 0, 5, .inl (fun _ => 0))), ((mm 7), .inl (E.2.2 0, 25, .inl (fun _ => 0))), ((mm 8), .inl (E.2.2 0, 180, .inl (fun _ => 0))), ((mm 9), .inl (E.2.2 3, 3000, .inl (fun _ => 0)))] 84 11441
    refine mp_callV hF (As := [.int (xs 1)]) (rest := [.int 0]) (wr := []) (aX10_count_177 E q2 (mm 1) (mm 6) (mm 7) (mm 8) (mm 9) (mm 2) (mm 3) (mm 4) (mm 5) (mm 10) (mm 11) (mm 12) (mm 13) (mm 14) (mm 15) (mm 16) (mm 17) (mm 18) (mm 19) (mm 20) (mm 21) (mm 22) (mm 23) (mm 24) (mm 25) wd (xs 1) hwd) mp_lkL_239 0 rfl [0, 1, 2, 3, 4, 5] [] rfl rfl rfl rfl rfl ⟨(Nat.le_of_ble_eq_true rfl), (Nat.le_of_ble_eq_true rfl), (Nat.le_of_ble_eq_true rfl), (Nat.le_of_ble_eq_true rfl)⟩ (Nat.le_of_ble_eq_true rfl) (by decide +kernel) (fun v164 w165 h166 => ?_)
    rcases h166 with ⟨rfl, c167, rfl⟩ | ⟨rfl, c168, rfl⟩ | ⟨rfl, c169, rfl⟩ | ⟨rfl, c170, rfl⟩ | ⟨rfl, c171, rfl⟩ | ⟨rfl, c172, rfl⟩ | ⟨rfl, c173, rfl⟩ | ⟨rfl, c174, rfl⟩ | ⟨rfl, c175, rfl⟩ | ⟨rfl, c176, rfl⟩ | ⟨rfl, c177, rfl⟩ | ⟨rfl, c178, rfl⟩
    · skip
      have c167 : (xs 1).toInt < 0 := c167
      exfalso; omega
    · skip
      have c168 : 9 < (xs 1).toInt := c168
      exfalso; omega
    · skip
      have c169 : (xs 1).toInt = 0 := c169
      exfalso; omega
    · skip
      have c170 : (xs 1).toInt = 1 := c170
      exfalso; omega
    · skip
      have c171 : (xs 1).toInt = 2 := c171
      exfalso; omega
    · skip
      have c172 : (xs 1).toInt = 3 := c172
      exfalso; omega
    · skip
      have c173 : (xs 1).toInt = 4 := c173
      exfalso; omega
    · skip
      have c174 : (xs 1).toInt = 5 := c174
      exfalso; omega
    · skip
      have c175 : (xs 1).toInt = 6 := c175
      show mp_W E X 4 1989 [(3, .int 0), (2, .ref q2), (1, .ref q1), (0, .ref b)] [.int 0, .int 0] [] 84 11441
      refine mp_run hF mp_tabL_ok [mp_h (.if_icmp .eq 230) [2219]] (by decide +kernel) ?_
      refine And.intro (fun _ => ?_) (fun c179 => absurd c179 (by decide))
      show mp_W E X 4 2219 [(3, .int 0), (2, .ref q2), (1, .ref q1), (0, .ref b)] [] [] 84 11441
      exact mp_sub [3, 0] rfl [] rfl rfl (mp_lw_next hL (Nat.le_of_ble_eq_true rfl) (Nat.le_of_ble_eq_true rfl))
    · skip
      have c176 : (xs 1).toInt = 7 := c176
      exfalso; omega
    · skip
      have c177 : (xs 1).toInt = 8 := c177
      exfalso; omega
    · skip
      have c178 : (xs 1).toInt = 9 := c178
      exfalso; omega
  · skip
    have c15 : (xs 1).toInt = 7 := c15
    show mp_W E X 4 1980 [(3, .int 0), (2, .ref q2), (1, .ref q1), (0, .ref b)] [.int 0] [(q2, .inr (10, [.int 0, .ref (mm 1), .ref (mm 2), .ref (mm 3), .ref (mm 4), .ref (mm 5), .int 0, .int 0, .int 0, .int 0, .int 0, .long 0, .int 0, .int 0, .int 0, .int (-1), .ref (mm 6), .ref (mm 7), .ref (mm 8), .ref (mm 9), .ref (mm 10), .ref (mm 11), .ref (mm 12), .ref (mm 13), .int 0, .ref (mm 14), .ref (mm 15), .ref (mm 16), .ref (mm 17), .int 0, .int 0, .int 0, .ref (mm 18), .ref (mm 19), .int 0, .int 0, .ref (mm 20), .ref (mm 21), .ref (mm 22), .int 0, .int 0, .int 0, .int 0, .ref (mm 23), .ref (mm 24), .ref (mm 25), .int 0])), ((mm 1), .inl (E.2.2 0, 4, .inl wd)), ((mm 6), .inl (E.2.2 0, 5, .inl (fun _ => 0))), ((mm 7), .inl (E.2.2 0, 25, .inl (fun _ => 0))), ((mm 8), .inl (E.2.2 0, 180, .inl (fun _ => 0))), ((mm 9), .inl (E.2.2 3, 3000, .inl (fun _ => 0)))] 84 11441
    refine mp_run hF mp_tabL_ok [mp_i (.aload_n 2), mp_i (.aload_n 0), mp_i (.iload_n 3), mp_c (.iconst 1) 1, mp_i .iadd] (by decide +kernel) ?_
    intro z180 h181
    obtain rfl : z180 = 1 := h181.trans (by decide)
    show mp_W E X 4 1985 [(3, .int 0), (2, .ref q2), (1, .ref q1), (0, .ref b)] [.int 1, .ref b, .ref q2, .int 0] [(q2, .inr (10, [.int 0, .ref (mm 1), .ref (mm 2), .ref (mm 3), .ref (mm 4), .ref (mm 5), .int 0, .int 0, .int 0, .int 0, .int 0, .long 0, .int 0, .int 0, .int 0, .int (-1), .ref (mm 6), .ref (mm 7), .ref (mm 8), .ref (mm 9), .ref (mm 10), .ref (mm 11), .ref (mm 12), .ref (mm 13), .int 0, .ref (mm 14), .ref (mm 15), .ref (mm 16), .ref (mm 17), .int 0, .int 0, .int 0, .ref (mm 18), .ref (mm 19), .int 0, .int 0, .ref (mm 20), .ref (mm 21), .ref (mm 22), .int 0, .int 0, .int 0, .int 0, .ref (mm 23), .ref (mm 24), .ref (mm 25), .int 0])), ((mm 1), .inl (E.2.2 0, 4, .inl wd)), ((mm 6), .inl (E.2.2 0, 5, .inl (fun _ => 0))), ((mm 7), .inl (E.2.2 0, 25, .inl (fun _ => 0))), ((mm 8), .inl (E.2.2 0, 180, .inl (fun _ => 0))), ((mm 9), .inl (E.2.2 3, 3000, .inl (fun _ => 0)))] 84 11441
    refine mp_lsld hL 1 (by decide) (by decide) (by decide) (by decide +kernel) ?_
    show mp_W E X 4 1986 [(3, .int 0), (2, .ref q2), (1, .ref q1), (0, .ref b)] [.int (xs 1), .ref q2, .int 0] [(q2, .inr (10, [.int 0, .ref (mm 1), .ref (mm 2), .ref (mm 3), .ref (mm 4), .ref (mm 5), .int 0, .int 0, .int 0, .int 0, .int 0, .long 0, .int 0, .int 0, .int 0, .int (-1), .ref (mm 6), .ref (mm 7), .ref (mm 8), .ref (mm 9), .ref (mm 10), .ref (mm 11), .ref (mm 12), .ref (mm 13), .int 0, .ref (mm 14), .ref (mm 15), .ref (mm 16), .ref (mm 17), .int 0, .int 0, .int 0, .ref (mm 18), .ref (mm 19), .int 0, .int 0, .ref (mm 20), .ref (mm 21), .ref (mm 22), .int 0, .int 0, .int 0, .int 0, .ref (mm 23), .ref (mm 24), .ref (mm 25), .int 0])), ((mm 1), .inl (E.2.2 0, 4, .inl wd)), ((mm 6), .inl (E.2.2 0, 5, .inl (fun _ => 0))), ((mm 7), .inl (E.2.2 0, 25, .inl (fun _ => 0))), ((mm 8), .inl (E.2.2 0, 180, .inl (fun _ => 0))), ((mm 9), .inl (E.2.2 3, 3000, .inl (fun _ => 0)))] 84 11441
    refine mp_callV hF (As := [.int (xs 1)]) (rest := [.int 0]) (wr := []) (aX10_count_177 E q2 (mm 1) (mm 6) (mm 7) (mm 8) (mm 9) (mm 2) (mm 3) (mm 4) (mm 5) (mm 10) (mm 11) (mm 12) (mm 13) (mm 14) (mm 15) (mm 16) (mm 17) (mm 18) (mm 19) (mm 20) (mm 21) (mm 22) (mm 23) (mm 24) (mm 25) wd (xs 1) hwd) mp_lkL_239 0 rfl [0, 1, 2, 3, 4, 5] [] rfl rfl rfl rfl rfl ⟨(Nat.le_of_ble_eq_true rfl), (Nat.le_of_ble_eq_true rfl), (Nat.le_of_ble_eq_true rfl), (Nat.le_of_ble_eq_true rfl)⟩ (Nat.le_of_ble_eq_true rfl) (by decide +kernel) (fun v182 w183 h184 => ?_)
    rcases h184 with ⟨rfl, c185, rfl⟩ | ⟨rfl, c186, rfl⟩ | ⟨rfl, c187, rfl⟩ | ⟨rfl, c188, rfl⟩ | ⟨rfl, c189, rfl⟩ | ⟨rfl, c190, rfl⟩ | ⟨rfl, c191, rfl⟩ | ⟨rfl, c192, rfl⟩ | ⟨rfl, c193, rfl⟩ | ⟨rfl, c194, rfl⟩ | ⟨rfl, c195, rfl⟩ | ⟨rfl, c196, rfl⟩
    · skip
      have c185 : (xs 1).toInt < 0 := c185
      exfalso; omega
    · skip
      have c186 : 9 < (xs 1).toInt := c186
      exfalso; omega
    · skip
      have c187 : (xs 1).toInt = 0 := c187
      exfalso; omega
    · skip
      have c188 : (xs 1).toInt = 1 := c188
      exfalso; omega
    · skip
      have c189 : (xs 1).toInt = 2 := c189
      exfalso; omega
    · skip
      have c190 : (xs 1).toInt = 3 := c190
      exfalso; omega
    · skip
      have c191 : (xs 1).toInt = 4 := c191
      exfalso; omega
    · skip
      have c192 : (xs 1).toInt = 5 := c192
      exfalso; omega
    · skip
      have c193 : (xs 1).toInt = 6 := c193
      exfalso; omega
    · skip
      have c194 : (xs 1).toInt = 7 := c194
      show mp_W E X 4 1989 [(3, .int 0), (2, .ref q2), (1, .ref q1), (0, .ref b)] [.int 0, .int 0] [] 84 11441
      refine mp_run hF mp_tabL_ok [mp_h (.if_icmp .eq 230) [2219]] (by decide +kernel) ?_
      refine And.intro (fun _ => ?_) (fun c197 => absurd c197 (by decide))
      show mp_W E X 4 2219 [(3, .int 0), (2, .ref q2), (1, .ref q1), (0, .ref b)] [] [] 84 11441
      exact mp_sub [3, 0] rfl [] rfl rfl (mp_lw_next hL (Nat.le_of_ble_eq_true rfl) (Nat.le_of_ble_eq_true rfl))
    · skip
      have c195 : (xs 1).toInt = 8 := c195
      exfalso; omega
    · skip
      have c196 : (xs 1).toInt = 9 := c196
      exfalso; omega
  · skip
    have c16 : (xs 1).toInt = 8 := c16
    show mp_W E X 4 1980 [(3, .int 0), (2, .ref q2), (1, .ref q1), (0, .ref b)] [.int 0] [(q2, .inr (10, [.int 0, .ref (mm 1), .ref (mm 2), .ref (mm 3), .ref (mm 4), .ref (mm 5), .int 0, .int 0, .int 0, .int 0, .int 0, .long 0, .int 0, .int 0, .int 0, .int (-1), .ref (mm 6), .ref (mm 7), .ref (mm 8), .ref (mm 9), .ref (mm 10), .ref (mm 11), .ref (mm 12), .ref (mm 13), .int 0, .ref (mm 14), .ref (mm 15), .ref (mm 16), .ref (mm 17), .int 0, .int 0, .int 0, .ref (mm 18), .ref (mm 19), .int 0, .int 0, .ref (mm 20), .ref (mm 21), .ref (mm 22), .int 0, .int 0, .int 0, .int 0, .ref (mm 23), .ref (mm 24), .ref (mm 25), .int 0])), ((mm 1), .inl (E.2.2 0, 4, .inl wd)), ((mm 6), .inl (E.2.2 0, 5, .inl (fun _ => 0))), ((mm 7), .inl (E.2.2 0, 25, .inl (fun _ => 0))), ((mm 8), .inl (E.2.2 0, 180, .inl (fun _ => 0))), ((mm 9), .inl (E.2.2 3, 3000, .inl (fun _ => 0)))] 84 11441
    refine mp_run hF mp_tabL_ok [mp_i (.aload_n 2), mp_i (.aload_n 0), mp_i (.iload_n 3), mp_c (.iconst 1) 1, mp_i .iadd] (by decide +kernel) ?_
    intro z198 h199
    obtain rfl : z198 = 1 := h199.trans (by decide)
    show mp_W E X 4 1985 [(3, .int 0), (2, .ref q2), (1, .ref q1), (0, .ref b)] [.int 1, .ref b, .ref q2, .int 0] [(q2, .inr (10, [.int 0, .ref (mm 1), .ref (mm 2), .ref (mm 3), .ref (mm 4), .ref (mm 5), .int 0, .int 0, .int 0, .int 0, .int 0, .long 0, .int 0, .int 0, .int 0, .int (-1), .ref (mm 6), .ref (mm 7), .ref (mm 8), .ref (mm 9), .ref (mm 10), .ref (mm 11), .ref (mm 12), .ref (mm 13), .int 0, .ref (mm 14), .ref (mm 15), .ref (mm 16), .ref (mm 17), .int 0, .int 0, .int 0, .ref (mm 18), .ref (mm 19), .int 0, .int 0, .ref (mm 20), .ref (mm 21), .ref (mm 22), .int 0, .int 0, .int 0, .int 0, .ref (mm 23), .ref (mm 24), .ref (mm 25), .int 0])), ((mm 1), .inl (E.2.2 0, 4, .inl wd)), ((mm 6), .inl (E.2.2 0, 5, .inl (fun _ => 0))), ((mm 7), .inl (E.2.2 0, 25, .inl (fun _ => 0))), ((mm 8), .inl (E.2.2 0, 180, .inl (fun _ => 0))), ((mm 9), .inl (E.2.2 3, 3000, .inl (fun _ => 0)))] 84 11441
    refine mp_lsld hL 1 (by decide) (by decide) (by decide) (by decide +kernel) ?_
    show mp_W E X 4 1986 [(3, .int 0), (2, .ref q2), (1, .ref q1), (0, .ref b)] [.int (xs 1), .ref q2, .int 0] [(q2, .inr (10, [.int 0, .ref (mm 1), .ref (mm 2), .ref (mm 3), .ref (mm 4), .ref (mm 5), .int 0, .int 0, .int 0, .int 0, .int 0, .long 0, .int 0, .int 0, .int 0, .int (-1), .ref (mm 6), .ref (mm 7), .ref (mm 8), .ref (mm 9), .ref (mm 10), .ref (mm 11), .ref (mm 12), .ref (mm 13), .int 0, .ref (mm 14), .ref (mm 15), .ref (mm 16), .ref (mm 17), .int 0, .int 0, .int 0, .ref (mm 18), .ref (mm 19), .int 0, .int 0, .ref (mm 20), .ref (mm 21), .ref (mm 22), .int 0, .int 0, .int 0, .int 0, .ref (mm 23), .ref (mm 24), .ref (mm 25), .int 0])), ((mm 1), .inl (E.2.2 0, 4, .inl wd)), ((mm 6), .inl (E.2.2 0, 5, .inl (fun _ => 0))), ((mm 7), .inl (E.2.2 0, 25, .inl (fun _ => 0))), ((mm 8), .inl (E.2.2 0, 180, .inl (fun _ => 0))), ((mm 9), .inl (E.2.2 3, 3000, .inl (fun _ => 0)))] 84 11441
    refine mp_callV hF (As := [.int (xs 1)]) (rest := [.int 0]) (wr := []) (aX10_count_177 E q2 (mm 1) (mm 6) (mm 7) (mm 8) (mm 9) (mm 2) (mm 3) (mm 4) (mm 5) (mm 10) (mm 11) (mm 12) (mm 13) (mm 14) (mm 15) (mm 16) (mm 17) (mm 18) (mm 19) (mm 20) (mm 21) (mm 22) (mm 23) (mm 24) (mm 25) wd (xs 1) hwd) mp_lkL_239 0 rfl [0, 1, 2, 3, 4, 5] [] rfl rfl rfl rfl rfl ⟨(Nat.le_of_ble_eq_true rfl), (Nat.le_of_ble_eq_true rfl), (Nat.le_of_ble_eq_true rfl), (Nat.le_of_ble_eq_true rfl)⟩ (Nat.le_of_ble_eq_true rfl) (by decide +kernel) (fun v200 w201 h202 => ?_)
    rcases h202 with ⟨rfl, c203, rfl⟩ | ⟨rfl, c204, rfl⟩ | ⟨rfl, c205, rfl⟩ | ⟨rfl, c206, rfl⟩ | ⟨rfl, c207, rfl⟩ | ⟨rfl, c208, rfl⟩ | ⟨rfl, c209, rfl⟩ | ⟨rfl, c210, rfl⟩ | ⟨rfl, c211, rfl⟩ | ⟨rfl, c212, rfl⟩ | ⟨rfl, c213, rfl⟩ | ⟨rfl, c214, rfl⟩
    · skip
      have c203 : (xs 1).toInt < 0 := c203
      exfalso; omega
    · skip
      have c204 : 9 < (xs 1).toInt := c204
      exfalso; omega
    · skip
      have c205 : (xs 1).toInt = 0 := c205
      exfalso; omega
    · skip
      have c206 : (xs 1).toInt = 1 := c206
      exfalso; omega
    · skip
      have c207 : (xs 1).toInt = 2 := c207
      exfalso; omega
    · skip
      have c208 : (xs 1).toInt = 3 := c208
      exfalso; omega
    · skip
      have c209 : (xs 1).toInt = 4 := c209
      exfalso; omega
    · skip
      have c210 : (xs 1).toInt = 5 := c210
      exfalso; omega
    · skip
      have c211 : (xs 1).toInt = 6 := c211
      exfalso; omega
    · skip
      have c212 : (xs 1).toInt = 7 := c212
      exfalso; omega
    · skip
      have c213 : (xs 1).toInt = 8 := c213
      show mp_W E X 4 1989 [(3, .int 0), (2, .ref q2), (1, .ref q1), (0, .ref b)] [.int 0, .int 0] [] 84 11441
      refine mp_run hF mp_tabL_ok [mp_h (.if_icmp .eq 230) [2219]] (by decide +kernel) ?_
      refine And.intro (fun _ => ?_) (fun c215 => absurd c215 (by decide))
      show mp_W E X 4 2219 [(3, .int 0), (2, .ref q2), (1, .ref q1), (0, .ref b)] [] [] 84 11441
      exact mp_sub [3, 0] rfl [] rfl rfl (mp_lw_next hL (Nat.le_of_ble_eq_true rfl) (Nat.le_of_ble_eq_true rfl))
    · skip
      have c214 : (xs 1).toInt = 9 := c214
      exfalso; omega
  · skip
    have c17 : (xs 1).toInt = 9 := c17
    show mp_W E X 4 1980 [(3, .int 0), (2, .ref q2), (1, .ref q1), (0, .ref b)] [.int 0] [(q2, .inr (10, [.int 0, .ref (mm 1), .ref (mm 2), .ref (mm 3), .ref (mm 4), .ref (mm 5), .int 0, .int 0, .int 0, .int 0, .int 0, .long 0, .int 0, .int 0, .int 0, .int (-1), .ref (mm 6), .ref (mm 7), .ref (mm 8), .ref (mm 9), .ref (mm 10), .ref (mm 11), .ref (mm 12), .ref (mm 13), .int 0, .ref (mm 14), .ref (mm 15), .ref (mm 16), .ref (mm 17), .int 0, .int 0, .int 0, .ref (mm 18), .ref (mm 19), .int 0, .int 0, .ref (mm 20), .ref (mm 21), .ref (mm 22), .int 0, .int 0, .int 0, .int 0, .ref (mm 23), .ref (mm 24), .ref (mm 25), .int 0])), ((mm 1), .inl (E.2.2 0, 4, .inl wd)), ((mm 6), .inl (E.2.2 0, 5, .inl (fun _ => 0))), ((mm 7), .inl (E.2.2 0, 25, .inl (fun _ => 0))), ((mm 8), .inl (E.2.2 0, 180, .inl (fun _ => 0))), ((mm 9), .inl (E.2.2 3, 3000, .inl (fun _ => 0)))] 84 11441
    refine mp_run hF mp_tabL_ok [mp_i (.aload_n 2), mp_i (.aload_n 0), mp_i (.iload_n 3), mp_c (.iconst 1) 1, mp_i .iadd] (by decide +kernel) ?_
    intro z216 h217
    obtain rfl : z216 = 1 := h217.trans (by decide)
    show mp_W E X 4 1985 [(3, .int 0), (2, .ref q2), (1, .ref q1), (0, .ref b)] [.int 1, .ref b, .ref q2, .int 0] [(q2, .inr (10, [.int 0, .ref (mm 1), .ref (mm 2), .ref (mm 3), .ref (mm 4), .ref (mm 5), .int 0, .int 0, .int 0, .int 0, .int 0, .long 0, .int 0, .int 0, .int 0, .int (-1), .ref (mm 6), .ref (mm 7), .ref (mm 8), .ref (mm 9), .ref (mm 10), .ref (mm 11), .ref (mm 12), .ref (mm 13), .int 0, .ref (mm 14), .ref (mm 15), .ref (mm 16), .ref (mm 17), .int 0, .int 0, .int 0, .ref (mm 18), .ref (mm 19), .int 0, .int 0, .ref (mm 20), .ref (mm 21), .ref (mm 22), .int 0, .int 0, .int 0, .int 0, .ref (mm 23), .ref (mm 24), .ref (mm 25), .int 0])), ((mm 1), .inl (E.2.2 0, 4, .inl wd)), ((mm 6), .inl (E.2.2 0, 5, .inl (fun _ => 0))), ((mm 7), .inl (E.2.2 0, 25, .inl (fun _ => 0))), ((mm 8), .inl (E.2.2 0, 180, .inl (fun _ => 0))), ((mm 9), .inl (E.2.2 3, 3000, .inl (fun _ => 0)))] 84 11441
    refine mp_lsld hL 1 (by decide) (by decide) (by decide) (by decide +kernel) ?_
    show mp_W E X 4 1986 [(3, .int 0), (2, .ref q2), (1, .ref q1), (0, .ref b)] [.int (xs 1), .ref q2, .int 0] [(q2, .inr (10, [.int 0, .ref (mm 1), .ref (mm 2), .ref (mm 3), .ref (mm 4), .ref (mm 5), .int 0, .int 0, .int 0, .int 0, .int 0, .long 0, .int 0, .int 0, .int 0, .int (-1), .ref (mm 6), .ref (mm 7), .ref (mm 8), .ref (mm 9), .ref (mm 10), .ref (mm 11), .ref (mm 12), .ref (mm 13), .int 0, .ref (mm 14), .ref (mm 15), .ref (mm 16), .ref (mm 17), .int 0, .int 0, .int 0, .ref (mm 18), .ref (mm 19), .int 0, .int 0, .ref (mm 20), .ref (mm 21), .ref (mm 22), .int 0, .int 0, .int 0, .int 0, .ref (mm 23), .ref (mm 24), .ref (mm 25), .int 0])), ((mm 1), .inl (E.2.2 0, 4, .inl wd)), ((mm 6), .inl (E.2.2 0, 5, .inl (fun _ => 0))), ((mm 7), .inl (E.2.2 0, 25, .inl (fun _ => 0))), ((mm 8), .inl (E.2.2 0, 180, .inl (fun _ => 0))), ((mm 9), .inl (E.2.2 3, 3000, .inl (fun _ => 0)))] 84 11441
    refine mp_callV hF (As := [.int (xs 1)]) (rest := [.int 0]) (wr := []) (aX10_count_177 E q2 (mm 1) (mm 6) (mm 7) (mm 8) (mm 9) (mm 2) (mm 3) (mm 4) (mm 5) (mm 10) (mm 11) (mm 12) (mm 13) (mm 14) (mm 15) (mm 16) (mm 17) (mm 18) (mm 19) (mm 20) (mm 21) (mm 22) (mm 23) (mm 24) (mm 25) wd (xs 1) hwd) mp_lkL_239 0 rfl [0, 1, 2, 3, 4, 5] [] rfl rfl rfl rfl rfl ⟨(Nat.le_of_ble_eq_true rfl), (Nat.le_of_ble_eq_true rfl), (Nat.le_of_ble_eq_true rfl), (Nat.le_of_ble_eq_true rfl)⟩ (Nat.le_of_ble_eq_true rfl) (by decide +kernel) (fun v218 w219 h220 => ?_)
    rcases h220 with ⟨rfl, c221, rfl⟩ | ⟨rfl, c222, rfl⟩ | ⟨rfl, c223, rfl⟩ | ⟨rfl, c224, rfl⟩ | ⟨rfl, c225, rfl⟩ | ⟨rfl, c226, rfl⟩ | ⟨rfl, c227, rfl⟩ | ⟨rfl, c228, rfl⟩ | ⟨rfl, c229, rfl⟩ | ⟨rfl, c230, rfl⟩ | ⟨rfl, c231, rfl⟩ | ⟨rfl, c232, rfl⟩
    · skip
      have c221 : (xs 1).toInt < 0 := c221
      exfalso; omega
    · skip
      have c222 : 9 < (xs 1).toInt := c222
      exfalso; omega
    · skip
      have c223 : (xs 1).toInt = 0 := c223
      exfalso; omega
    · skip
      have c224 : (xs 1).toInt = 1 := c224
      exfalso; omega
    · skip
      have c225 : (xs 1).toInt = 2 := c225
      exfalso; omega
    · skip
      have c226 : (xs 1).toInt = 3 := c226
      exfalso; omega
    · skip
      have c227 : (xs 1).toInt = 4 := c227
      exfalso; omega
    · skip
      have c228 : (xs 1).toInt = 5 := c228
      exfalso; omega
    · skip
      have c229 : (xs 1).toInt = 6 := c229
      exfalso; omega
    · skip
      have c230 : (xs 1).toInt = 7 := c230
      exfalso; omega
    · skip
      have c231 : (xs 1).toInt = 8 := c231
      exfalso; omega
    · skip
      have c232 : (xs 1).toInt = 9 := c232
      show mp_W E X 4 1989 [(3, .int 0), (2, .ref q2), (1, .ref q1), (0, .ref b)] [.int 0, .int 0] [] 84 11441
      refine mp_run hF mp_tabL_ok [mp_h (.if_icmp .eq 230) [2219]] (by decide +kernel) ?_
      refine And.intro (fun _ => ?_) (fun c233 => absurd c233 (by decide))
      show mp_W E X 4 2219 [(3, .int 0), (2, .ref q2), (1, .ref q1), (0, .ref b)] [] [] 84 11441
      exact mp_sub [3, 0] rfl [] rfl rfl (mp_lw_next hL (Nat.le_of_ble_eq_true rfl) (Nat.le_of_ble_eq_true rfl))

set_option maxHeartbeats 4000000 in
set_option maxRecDepth 100000 in
theorem mp_case_55 {E : mp_E} {X : mp_X} {b : Nat} {xs : Nat → Int32} (hL : mp_Lw E X b 6 xs) (q1 q2 : Nat) (bb mm : Nat → Nat) (vs ln wd : Nat → Int32) (hln : ∀ j, j < 4 → ln j = -1) (hwd : ∀ j, j < 4 → wd j = -1) : mp_W E X 4 1994 [(3, .int 0), (2, .ref q2), (1, .ref q1), (0, .ref b)] [] (mp_w0 E q1 q2 bb mm vs ln wd) 84 11441 := by
  have hF : mp_F E X (RL, code, 4, (2048, 600000, 7302250, 84000), ret, false) := hL.1
  show mp_W E X 4 1994 [(3, .int 0), (2, .ref q2), (1, .ref q1), (0, .ref b)] [] (mp_w0 E q1 q2 bb mm vs ln wd) 84 11441
  refine mp_run hF mp_tabL_ok [mp_i (.aload_n 1), mp_i (.aload_n 0), mp_i (.iload_n 3), mp_c (.iconst 1) 1, mp_i .iadd] (by decide +kernel) ?_
  intro z1 h2
  obtain rfl : z1 = 1 := h2.trans (by decide)
  show mp_W E X 4 1999 [(3, .int 0), (2, .ref q2), (1, .ref q1), (0, .ref b)] [.int 1, .ref b, .ref q1] (mp_w0 E q1 q2 bb mm vs ln wd) 84 11441
  refine mp_lsld hL 1 (by decide) (by decide) (by decide) (by decide +kernel) ?_
  show mp_W E X 4 2000 [(3, .int 0), (2, .ref q2), (1, .ref q1), (0, .ref b)] [.int (xs 1), .ref q1] (mp_w0 E q1 q2 bb mm vs ln wd) 84 11441
  refine mp_callV hF (As := [.int (xs 1)]) (rest := []) (wr := [(q2, .inr (10, [.int 0, .ref (mm 1), .ref (mm 2), .ref (mm 3), .ref (mm 4), .ref (mm 5), .int 0, .int 0, .int 0, .int 0, .int 0, .long 0, .int 0, .int 0, .int 0, .int (-1), .ref (mm 6), .ref (mm 7), .ref (mm 8), .ref (mm 9), .ref (mm 10), .ref (mm 11), .ref (mm 12), .ref (mm 13), .int 0, .ref (mm 14), .ref (mm 15), .ref (mm 16), .ref (mm 17), .int 0, .int 0, .int 0, .ref (mm 18), .ref (mm 19), .int 0, .int 0, .ref (mm 20), .ref (mm 21), .ref (mm 22), .int 0, .int 0, .int 0, .int 0, .ref (mm 23), .ref (mm 24), .ref (mm 25), .int 0])), ((mm 6), .inl (E.2.2 0, 5, .inl (fun _ => 0))), ((mm 7), .inl (E.2.2 0, 25, .inl (fun _ => 0))), ((mm 8), .inl (E.2.2 0, 180, .inl (fun _ => 0))), ((mm 9), .inl (E.2.2 3, 3000, .inl (fun _ => 0))), ((mm 10), .inl (E.2.2 0, 90, .inl (fun _ => 0))), ((mm 11), .inl (E.2.2 0, 300, .inl (fun _ => 0))), ((mm 12), .inl (E.2.2 0, 300, .inl (fun _ => 0))), ((mm 13), .inl (E.2.2 3, 3, .inl (fun _ => 0)))]) (aX9_image_180 E q1 (bb 16) (bb 17) (bb 18) (bb 19) (bb 20) (bb 21) (bb 22) (bb 23) (bb 24) (bb 25) (bb 26) (bb 27) (bb 28) (bb 29) (bb 36) (bb 1) (bb 37) (bb 40) (bb 46) (bb 49) (bb 52) (bb 54) (bb 30) (bb 31) (bb 32) (bb 33) (bb 34) (bb 35) (xs 1)) mp_lkL_240 0 rfl [0, 16, 17, 18, 19, 20, 21, 22, 23, 24, 25, 26, 27, 28, 29, 36] [58, 64, 65, 66, 67, 68, 69, 70, 71] rfl rfl rfl rfl rfl ⟨(Nat.le_of_ble_eq_true rfl), (Nat.le_of_ble_eq_true rfl), (Nat.le_of_ble_eq_true rfl), (Nat.le_of_ble_eq_true rfl)⟩ (Nat.le_of_ble_eq_true rfl) (by decide +kernel) (fun v3 w4 h5 => ?_)
  rcases h5 with ⟨rfl, c6, rfl⟩ | ⟨rfl, c7, c8, rfl⟩ | ⟨rfl, c9, c10, c11, rfl⟩ | ⟨rfl, c12, c13, c14, rfl⟩ | ⟨rfl, c15, c16, c17, rfl⟩
  · skip
    have c6 : (xs 1).toInt < 0 := c6
    show mp_W E X 4 2003 [(3, .int 0), (2, .ref q2), (1, .ref q1), (0, .ref b)] [.int (-2)] [(q2, .inr (10, [.int 0, .ref (mm 1), .ref (mm 2), .ref (mm 3), .ref (mm 4), .ref (mm 5), .int 0, .int 0, .int 0, .int 0, .int 0, .long 0, .int 0, .int 0, .int 0, .int (-1), .ref (mm 6), .ref (mm 7), .ref (mm 8), .ref (mm 9), .ref (mm 10), .ref (mm 11), .ref (mm 12), .ref (mm 13), .int 0, .ref (mm 14), .ref (mm 15), .ref (mm 16), .ref (mm 17), .int 0, .int 0, .int 0, .ref (mm 18), .ref (mm 19), .int 0, .int 0, .ref (mm 20), .ref (mm 21), .ref (mm 22), .int 0, .int 0, .int 0, .int 0, .ref (mm 23), .ref (mm 24), .ref (mm 25), .int 0])), ((mm 6), .inl (E.2.2 0, 5, .inl (fun _ => 0))), ((mm 7), .inl (E.2.2 0, 25, .inl (fun _ => 0))), ((mm 8), .inl (E.2.2 0, 180, .inl (fun _ => 0))), ((mm 9), .inl (E.2.2 3, 3000, .inl (fun _ => 0))), ((mm 10), .inl (E.2.2 0, 90, .inl (fun _ => 0))), ((mm 11), .inl (E.2.2 0, 300, .inl (fun _ => 0))), ((mm 12), .inl (E.2.2 0, 300, .inl (fun _ => 0))), ((mm 13), .inl (E.2.2 3, 3, .inl (fun _ => 0)))] 97 11645
    refine mp_run hF mp_tabL_ok [mp_i (.aload_n 2), mp_i (.aload_n 0), mp_i (.iload_n 3), mp_c (.iconst 1) 1, mp_i .iadd] (by decide +kernel) ?_
    intro z18 h19
    obtain rfl : z18 = 1 := h19.trans (by decide)
    show mp_W E X 4 2008 [(3, .int 0), (2, .ref q2), (1, .ref q1), (0, .ref b)] [.int 1, .ref b, .ref q2, .int (-2)] [(q2, .inr (10, [.int 0, .ref (mm 1), .ref (mm 2), .ref (mm 3), .ref (mm 4), .ref (mm 5), .int 0, .int 0, .int 0, .int 0, .int 0, .long 0, .int 0, .int 0, .int 0, .int (-1), .ref (mm 6), .ref (mm 7), .ref (mm 8), .ref (mm 9), .ref (mm 10), .ref (mm 11), .ref (mm 12), .ref (mm 13), .int 0, .ref (mm 14), .ref (mm 15), .ref (mm 16), .ref (mm 17), .int 0, .int 0, .int 0, .ref (mm 18), .ref (mm 19), .int 0, .int 0, .ref (mm 20), .ref (mm 21), .ref (mm 22), .int 0, .int 0, .int 0, .int 0, .ref (mm 23), .ref (mm 24), .ref (mm 25), .int 0])), ((mm 6), .inl (E.2.2 0, 5, .inl (fun _ => 0))), ((mm 7), .inl (E.2.2 0, 25, .inl (fun _ => 0))), ((mm 8), .inl (E.2.2 0, 180, .inl (fun _ => 0))), ((mm 9), .inl (E.2.2 3, 3000, .inl (fun _ => 0))), ((mm 10), .inl (E.2.2 0, 90, .inl (fun _ => 0))), ((mm 11), .inl (E.2.2 0, 300, .inl (fun _ => 0))), ((mm 12), .inl (E.2.2 0, 300, .inl (fun _ => 0))), ((mm 13), .inl (E.2.2 3, 3, .inl (fun _ => 0)))] 97 11645
    refine mp_lsld hL 1 (by decide) (by decide) (by decide) (by decide +kernel) ?_
    show mp_W E X 4 2009 [(3, .int 0), (2, .ref q2), (1, .ref q1), (0, .ref b)] [.int (xs 1), .ref q2, .int (-2)] [(q2, .inr (10, [.int 0, .ref (mm 1), .ref (mm 2), .ref (mm 3), .ref (mm 4), .ref (mm 5), .int 0, .int 0, .int 0, .int 0, .int 0, .long 0, .int 0, .int 0, .int 0, .int (-1), .ref (mm 6), .ref (mm 7), .ref (mm 8), .ref (mm 9), .ref (mm 10), .ref (mm 11), .ref (mm 12), .ref (mm 13), .int 0, .ref (mm 14), .ref (mm 15), .ref (mm 16), .ref (mm 17), .int 0, .int 0, .int 0, .ref (mm 18), .ref (mm 19), .int 0, .int 0, .ref (mm 20), .ref (mm 21), .ref (mm 22), .int 0, .int 0, .int 0, .int 0, .ref (mm 23), .ref (mm 24), .ref (mm 25), .int 0])), ((mm 6), .inl (E.2.2 0, 5, .inl (fun _ => 0))), ((mm 7), .inl (E.2.2 0, 25, .inl (fun _ => 0))), ((mm 8), .inl (E.2.2 0, 180, .inl (fun _ => 0))), ((mm 9), .inl (E.2.2 3, 3000, .inl (fun _ => 0))), ((mm 10), .inl (E.2.2 0, 90, .inl (fun _ => 0))), ((mm 11), .inl (E.2.2 0, 300, .inl (fun _ => 0))), ((mm 12), .inl (E.2.2 0, 300, .inl (fun _ => 0))), ((mm 13), .inl (E.2.2 3, 3, .inl (fun _ => 0)))] 97 11645
    refine mp_callV hF (As := [.int (xs 1)]) (rest := [.int (-2)]) (wr := []) (aX10_image_188 E q2 (mm 6) (mm 7) (mm 8) (mm 9) (mm 10) (mm 11) (mm 12) (mm 13) (mm 1) (mm 2) (mm 3) (mm 4) (mm 5) (mm 14) (mm 15) (mm 16) (mm 17) (mm 18) (mm 19) (mm 20) (mm 21) (mm 22) (mm 23) (mm 24) (mm 25) (xs 1)) mp_lkL_243 0 rfl [0, 1, 2, 3, 4, 5, 6, 7, 8] [] rfl rfl rfl rfl rfl ⟨(Nat.le_of_ble_eq_true rfl), (Nat.le_of_ble_eq_true rfl), (Nat.le_of_ble_eq_true rfl), (Nat.le_of_ble_eq_true rfl)⟩ (Nat.le_of_ble_eq_true rfl) (by decide +kernel) (fun v20 w21 h22 => ?_)
    rcases h22 with ⟨rfl, c23, rfl⟩ | ⟨rfl, c24, c25, rfl⟩ | ⟨rfl, c26, c27, rfl⟩
    · skip
      have c23 : (xs 1).toInt < 0 := c23
      show mp_W E X 4 2012 [(3, .int 0), (2, .ref q2), (1, .ref q1), (0, .ref b)] [.int (-2), .int (-2)] [] 97 11645
      refine mp_run hF mp_tabL_ok [mp_h (.if_icmp .eq 207) [2219]] (by decide +kernel) ?_
      refine And.intro (fun _ => ?_) (fun c28 => absurd c28 (by decide))
      show mp_W E X 4 2219 [(3, .int 0), (2, .ref q2), (1, .ref q1), (0, .ref b)] [] [] 97 11645
      exact mp_sub [3, 0] rfl [] rfl rfl (mp_lw_next hL (Nat.le_of_ble_eq_true rfl) (Nat.le_of_ble_eq_true rfl))
    · skip
      have c24 : 0 ≤ (xs 1).toInt := c24
      have c25 : 2 < (xs 1).toInt := c25
      exfalso; omega
    · skip
      have c26 : 0 ≤ (xs 1).toInt := c26
      have c27 : (xs 1).toInt ≤ 2 := c27
      exfalso; omega
  · skip
    have c7 : 0 ≤ (xs 1).toInt := c7
    have c8 : 3 ≤ (xs 1).toInt := c8
    show mp_W E X 4 2003 [(3, .int 0), (2, .ref q2), (1, .ref q1), (0, .ref b)] [.int (-2)] [(q2, .inr (10, [.int 0, .ref (mm 1), .ref (mm 2), .ref (mm 3), .ref (mm 4), .ref (mm 5), .int 0, .int 0, .int 0, .int 0, .int 0, .long 0, .int 0, .int 0, .int 0, .int (-1), .ref (mm 6), .ref (mm 7), .ref (mm 8), .ref (mm 9), .ref (mm 10), .ref (mm 11), .ref (mm 12), .ref (mm 13), .int 0, .ref (mm 14), .ref (mm 15), .ref (mm 16), .ref (mm 17), .int 0, .int 0, .int 0, .ref (mm 18), .ref (mm 19), .int 0, .int 0, .ref (mm 20), .ref (mm 21), .ref (mm 22), .int 0, .int 0, .int 0, .int 0, .ref (mm 23), .ref (mm 24), .ref (mm 25), .int 0])), ((mm 6), .inl (E.2.2 0, 5, .inl (fun _ => 0))), ((mm 7), .inl (E.2.2 0, 25, .inl (fun _ => 0))), ((mm 8), .inl (E.2.2 0, 180, .inl (fun _ => 0))), ((mm 9), .inl (E.2.2 3, 3000, .inl (fun _ => 0))), ((mm 10), .inl (E.2.2 0, 90, .inl (fun _ => 0))), ((mm 11), .inl (E.2.2 0, 300, .inl (fun _ => 0))), ((mm 12), .inl (E.2.2 0, 300, .inl (fun _ => 0))), ((mm 13), .inl (E.2.2 3, 3, .inl (fun _ => 0)))] 97 11645
    refine mp_run hF mp_tabL_ok [mp_i (.aload_n 2), mp_i (.aload_n 0), mp_i (.iload_n 3), mp_c (.iconst 1) 1, mp_i .iadd] (by decide +kernel) ?_
    intro z29 h30
    obtain rfl : z29 = 1 := h30.trans (by decide)
    show mp_W E X 4 2008 [(3, .int 0), (2, .ref q2), (1, .ref q1), (0, .ref b)] [.int 1, .ref b, .ref q2, .int (-2)] [(q2, .inr (10, [.int 0, .ref (mm 1), .ref (mm 2), .ref (mm 3), .ref (mm 4), .ref (mm 5), .int 0, .int 0, .int 0, .int 0, .int 0, .long 0, .int 0, .int 0, .int 0, .int (-1), .ref (mm 6), .ref (mm 7), .ref (mm 8), .ref (mm 9), .ref (mm 10), .ref (mm 11), .ref (mm 12), .ref (mm 13), .int 0, .ref (mm 14), .ref (mm 15), .ref (mm 16), .ref (mm 17), .int 0, .int 0, .int 0, .ref (mm 18), .ref (mm 19), .int 0, .int 0, .ref (mm 20), .ref (mm 21), .ref (mm 22), .int 0, .int 0, .int 0, .int 0, .ref (mm 23), .ref (mm 24), .ref (mm 25), .int 0])), ((mm 6), .inl (E.2.2 0, 5, .inl (fun _ => 0))), ((mm 7), .inl (E.2.2 0, 25, .inl (fun _ => 0))), ((mm 8), .inl (E.2.2 0, 180, .inl (fun _ => 0))), ((mm 9), .inl (E.2.2 3, 3000, .inl (fun _ => 0))), ((mm 10), .inl (E.2.2 0, 90, .inl (fun _ => 0))), ((mm 11), .inl (E.2.2 0, 300, .inl (fun _ => 0))), ((mm 12), .inl (E.2.2 0, 300, .inl (fun _ => 0))), ((mm 13), .inl (E.2.2 3, 3, .inl (fun _ => 0)))] 97 11645
    refine mp_lsld hL 1 (by decide) (by decide) (by decide) (by decide +kernel) ?_
    show mp_W E X 4 2009 [(3, .int 0), (2, .ref q2), (1, .ref q1), (0, .ref b)] [.int (xs 1), .ref q2, .int (-2)] [(q2, .inr (10, [.int 0, .ref (mm 1), .ref (mm 2), .ref (mm 3), .ref (mm 4), .ref (mm 5), .int 0, .int 0, .int 0, .int 0, .int 0, .long 0, .int 0, .int 0, .int 0, .int (-1), .ref (mm 6), .ref (mm 7), .ref (mm 8), .ref (mm 9), .ref (mm 10), .ref (mm 11), .ref (mm 12), .ref (mm 13), .int 0, .ref (mm 14), .ref (mm 15), .ref (mm 16), .ref (mm 17), .int 0, .int 0, .int 0, .ref (mm 18), .ref (mm 19), .int 0, .int 0, .ref (mm 20), .ref (mm 21), .ref (mm 22), .int 0, .int 0, .int 0, .int 0, .ref (mm 23), .ref (mm 24), .ref (mm 25), .int 0])), ((mm 6), .inl (E.2.2 0, 5, .inl (fun _ => 0))), ((mm 7), .inl (E.2.2 0, 25, .inl (fun _ => 0))), ((mm 8), .inl (E.2.2 0, 180, .inl (fun _ => 0))), ((mm 9), .inl (E.2.2 3, 3000, .inl (fun _ => 0))), ((mm 10), .inl (E.2.2 0, 90, .inl (fun _ => 0))), ((mm 11), .inl (E.2.2 0, 300, .inl (fun _ => 0))), ((mm 12), .inl (E.2.2 0, 300, .inl (fun _ => 0))), ((mm 13), .inl (E.2.2 3, 3, .inl (fun _ => 0)))] 97 11645
    refine mp_callV hF (As := [.int (xs 1)]) (rest := [.int (-2)]) (wr := []) (aX10_image_188 E q2 (mm 6) (mm 7) (mm 8) (mm 9) (mm 10) (mm 11) (mm 12) (mm 13) (mm 1) (mm 2) (mm 3) (mm 4) (mm 5) (mm 14) (mm 15) (mm 16) (mm 17) (mm 18) (mm 19) (mm 20) (mm 21) (mm 22) (mm 23) (mm 24) (mm 25) (xs 1)) mp_lkL_243 0 rfl [0, 1, 2, 3, 4, 5, 6, 7, 8] [] rfl rfl rfl rfl rfl ⟨(Nat.le_of_ble_eq_true rfl), (Nat.le_of_ble_eq_true rfl), (Nat.le_of_ble_eq_true rfl), (Nat.le_of_ble_eq_true rfl)⟩ (Nat.le_of_ble_eq_true rfl) (by decide +kernel) (fun v31 w32 h33 => ?_)
    rcases h33 with ⟨rfl, c34, rfl⟩ | ⟨rfl, c35, c36, rfl⟩ | ⟨rfl, c37, c38, rfl⟩
    · skip
      have c34 : (xs 1).toInt < 0 := c34
      exfalso; omega
    · skip
      have c35 : 0 ≤ (xs 1).toInt := c35
      have c36 : 2 < (xs 1).toInt := c36
      show mp_W E X 4 2012 [(3, .int 0), (2, .ref q2), (1, .ref q1), (0, .ref b)] [.int (-2), .int (-2)] [] 97 11645
      refine mp_run hF mp_tabL_ok [mp_h (.if_icmp .eq 207) [2219]] (by decide +kernel) ?_
      refine And.intro (fun _ => ?_) (fun c39 => absurd c39 (by decide))
      show mp_W E X 4 2219 [(3, .int 0), (2, .ref q2), (1, .ref q1), (0, .ref b)] [] [] 97 11645
      exact mp_sub [3, 0] rfl [] rfl rfl (mp_lw_next hL (Nat.le_of_ble_eq_true rfl) (Nat.le_of_ble_eq_true rfl))
    · skip
      have c37 : 0 ≤ (xs 1).toInt := c37
      have c38 : (xs 1).toInt ≤ 2 := c38
      exfalso; omega
  · skip
    have c9 : 0 ≤ (xs 1).toInt := c9
    have c10 : (xs 1).toInt < 3 := c10
    have c11 : (xs 1).toInt = 0 := c11
    show mp_W E X 4 2003 [(3, .int 0), (2, .ref q2), (1, .ref q1), (0, .ref b)] [.int 0] [(q2, .inr (10, [.int 0, .ref (mm 1), .ref (mm 2), .ref (mm 3), .ref (mm 4), .ref (mm 5), .int 0, .int 0, .int 0, .int 0, .int 0, .long 0, .int 0, .int 0, .int 0, .int (-1), .ref (mm 6), .ref (mm 7), .ref (mm 8), .ref (mm 9), .ref (mm 10), .ref (mm 11), .ref (mm 12), .ref (mm 13), .int 0, .ref (mm 14), .ref (mm 15), .ref (mm 16), .ref (mm 17), .int 0, .int 0, .int 0, .ref (mm 18), .ref (mm 19), .int 0, .int 0, .ref (mm 20), .ref (mm 21), .ref (mm 22), .int 0, .int 0, .int 0, .int 0, .ref (mm 23), .ref (mm 24), .ref (mm 25), .int 0])), ((mm 6), .inl (E.2.2 0, 5, .inl (fun _ => 0))), ((mm 7), .inl (E.2.2 0, 25, .inl (fun _ => 0))), ((mm 8), .inl (E.2.2 0, 180, .inl (fun _ => 0))), ((mm 9), .inl (E.2.2 3, 3000, .inl (fun _ => 0))), ((mm 10), .inl (E.2.2 0, 90, .inl (fun _ => 0))), ((mm 11), .inl (E.2.2 0, 300, .inl (fun _ => 0))), ((mm 12), .inl (E.2.2 0, 300, .inl (fun _ => 0))), ((mm 13), .inl (E.2.2 3, 3, .inl (fun _ => 0)))] 97 11645
    refine mp_run hF mp_tabL_ok [mp_i (.aload_n 2), mp_i (.aload_n 0), mp_i (.iload_n 3), mp_c (.iconst 1) 1, mp_i .iadd] (by decide +kernel) ?_
    intro z40 h41
    obtain rfl : z40 = 1 := h41.trans (by decide)
    show mp_W E X 4 2008 [(3, .int 0), (2, .ref q2), (1, .ref q1), (0, .ref b)] [.int 1, .ref b, .ref q2, .int 0] [(q2, .inr (10, [.int 0, .ref (mm 1), .ref (mm 2), .ref (mm 3), .ref (mm 4), .ref (mm 5), .int 0, .int 0, .int 0, .int 0, .int 0, .long 0, .int 0, .int 0, .int 0, .int (-1), .ref (mm 6), .ref (mm 7), .ref (mm 8), .ref (mm 9), .ref (mm 10), .ref (mm 11), .ref (mm 12), .ref (mm 13), .int 0, .ref (mm 14), .ref (mm 15), .ref (mm 16), .ref (mm 17), .int 0, .int 0, .int 0, .ref (mm 18), .ref (mm 19), .int 0, .int 0, .ref (mm 20), .ref (mm 21), .ref (mm 22), .int 0, .int 0, .int 0, .int 0, .ref (mm 23), .ref (mm 24), .ref (mm 25), .int 0])), ((mm 6), .inl (E.2.2 0, 5, .inl (fun _ => 0))), ((mm 7), .inl (E.2.2 0, 25, .inl (fun _ => 0))), ((mm 8), .inl (E.2.2 0, 180, .inl (fun _ => 0))), ((mm 9), .inl (E.2.2 3, 3000, .inl (fun _ => 0))), ((mm 10), .inl (E.2.2 0, 90, .inl (fun _ => 0))), ((mm 11), .inl (E.2.2 0, 300, .inl (fun _ => 0))), ((mm 12), .inl (E.2.2 0, 300, .inl (fun _ => 0))), ((mm 13), .inl (E.2.2 3, 3, .inl (fun _ => 0)))] 97 11645
    refine mp_lsld hL 1 (by decide) (by decide) (by decide) (by decide +kernel) ?_
    show mp_W E X 4 2009 [(3, .int 0), (2, .ref q2), (1, .ref q1), (0, .ref b)] [.int (xs 1), .ref q2, .int 0] [(q2, .inr (10, [.int 0, .ref (mm 1), .ref (mm 2), .ref (mm 3), .ref (mm 4), .ref (mm 5), .int 0, .int 0, .int 0, .int 0, .int 0, .long 0, .int 0, .int 0, .int 0, .int (-1), .ref (mm 6), .ref (mm 7), .ref (mm 8), .ref (mm 9), .ref (mm 10), .ref (mm 11), .ref (mm 12), .ref (mm 13), .int 0, .ref (mm 14), .ref (mm 15), .ref (mm 16), .ref (mm 17), .int 0, .int 0, .int 0, .ref (mm 18), .ref (mm 19), .int 0, .int 0, .ref (mm 20), .ref (mm 21), .ref (mm 22), .int 0, .int 0, .int 0, .int 0, .ref (mm 23), .ref (mm 24), .ref (mm 25), .int 0])), ((mm 6), .inl (E.2.2 0, 5, .inl (fun _ => 0))), ((mm 7), .inl (E.2.2 0, 25, .inl (fun _ => 0))), ((mm 8), .inl (E.2.2 0, 180, .inl (fun _ => 0))), ((mm 9), .inl (E.2.2 3, 3000, .inl (fun _ => 0))), ((mm 10), .inl (E.2.2 0, 90, .inl (fun _ => 0))), ((mm 11), .inl (E.2.2 0, 300, .inl (fun _ => 0))), ((mm 12), .inl (E.2.2 0, 300, .inl (fun _ => 0))), ((mm 13), .inl (E.2.2 3, 3, .inl (fun _ => 0)))] 97 11645
    refine mp_callV hF (As := [.int (xs 1)]) (rest := [.int 0]) (wr := []) (aX10_image_188 E q2 (mm 6) (mm 7) (mm 8) (mm 9) (mm 10) (mm 11) (mm 12) (mm 13) (mm 1) (mm 2) (mm 3) (mm 4) (mm 5) (mm 14) (mm 15) (mm 16) (mm 17) (mm 18) (mm 19) (mm 20) (mm 21) (mm 22) (mm 23) (mm 24) (mm 25) (xs 1)) mp_lkL_243 0 rfl [0, 1, 2, 3, 4, 5, 6, 7, 8] [] rfl rfl rfl rfl rfl ⟨(Nat.le_of_ble_eq_true rfl), (Nat.le_of_ble_eq_true rfl), (Nat.le_of_ble_eq_true rfl), (Nat.le_of_ble_eq_true rfl)⟩ (Nat.le_of_ble_eq_true rfl) (by decide +kernel) (fun v42 w43 h44 => ?_)
    rcases h44 with ⟨rfl, c45, rfl⟩ | ⟨rfl, c46, c47, rfl⟩ | ⟨rfl, c48, c49, rfl⟩
    · skip
      have c45 : (xs 1).toInt < 0 := c45
      exfalso; omega
    · skip
      have c46 : 0 ≤ (xs 1).toInt := c46
      have c47 : 2 < (xs 1).toInt := c47
      exfalso; omega
    · skip
      have c48 : 0 ≤ (xs 1).toInt := c48
      have c49 : (xs 1).toInt ≤ 2 := c49
      show mp_W E X 4 2012 [(3, .int 0), (2, .ref q2), (1, .ref q1), (0, .ref b)] [.int 0, .int 0] [] 97 11645
      refine mp_run hF mp_tabL_ok [mp_h (.if_icmp .eq 207) [2219]] (by decide +kernel) ?_
      refine And.intro (fun _ => ?_) (fun c50 => absurd c50 (by decide))
      show mp_W E X 4 2219 [(3, .int 0), (2, .ref q2), (1, .ref q1), (0, .ref b)] [] [] 97 11645
      exact mp_sub [3, 0] rfl [] rfl rfl (mp_lw_next hL (Nat.le_of_ble_eq_true rfl) (Nat.le_of_ble_eq_true rfl))
  · skip
    have c12 : 0 ≤ (xs 1).toInt := c12
    have c13 : (xs 1).toInt < 3 := c13
    have c14 : (xs 1).toInt = 1 := c14
    show mp_W E X 4 2003 [(3, .int 0), (2, .ref q2), (1, .ref q1), (0, .ref b)] [.int 0] [(q2, .inr (10, [.int 0, .ref (mm 1), .ref (mm 2), .ref (mm 3), .ref (mm 4), .ref (mm 5), .int 0, .int 0, .int 0, .int 0, .int 0, .long 0, .int 0, .int 0, .int 0, .int (-1), .ref (mm 6), .ref (mm 7), .ref (mm 8), .ref (mm 9), .ref (mm 10), .ref (mm 11), .ref (mm 12), .ref (mm 13), .int 0, .ref (mm 14), .ref (mm 15), .ref (mm 16), .ref (mm 17), .int 0, .int 0, .int 0, .ref (mm 18), .ref (mm 19), .int 0, .int 0, .ref (mm 20), .ref (mm 21), .ref (mm 22), .int 0, .int 0, .int 0, .int 0, .ref (mm 23), .ref (mm 24), .ref (mm 25), .int 0])), ((mm 6), .inl (E.2.2 0, 5, .inl (fun _ => 0))), ((mm 7), .inl (E.2.2 0, 25, .inl (fun _ => 0))), ((mm 8), .inl (E.2.2 0, 180, .inl (fun _ => 0))), ((mm 9), .inl (E.2.2 3, 3000, .inl (fun _ => 0))), ((mm 10), .inl (E.2.2 0, 90, .inl (fun _ => 0))), ((mm 11), .inl (E.2.2 0, 300, .inl (fun _ => 0))), ((mm 12), .inl (E.2.2 0, 300, .inl (fun _ => 0))), ((mm 13), .inl (E.2.2 3, 3, .inl (fun _ => 0)))] 97 11645
    refine mp_run hF mp_tabL_ok [mp_i (.aload_n 2), mp_i (.aload_n 0), mp_i (.iload_n 3), mp_c (.iconst 1) 1, mp_i .iadd] (by decide +kernel) ?_
    intro z51 h52
    obtain rfl : z51 = 1 := h52.trans (by decide)
    show mp_W E X 4 2008 [(3, .int 0), (2, .ref q2), (1, .ref q1), (0, .ref b)] [.int 1, .ref b, .ref q2, .int 0] [(q2, .inr (10, [.int 0, .ref (mm 1), .ref (mm 2), .ref (mm 3), .ref (mm 4), .ref (mm 5), .int 0, .int 0, .int 0, .int 0, .int 0, .long 0, .int 0, .int 0, .int 0, .int (-1), .ref (mm 6), .ref (mm 7), .ref (mm 8), .ref (mm 9), .ref (mm 10), .ref (mm 11), .ref (mm 12), .ref (mm 13), .int 0, .ref (mm 14), .ref (mm 15), .ref (mm 16), .ref (mm 17), .int 0, .int 0, .int 0, .ref (mm 18), .ref (mm 19), .int 0, .int 0, .ref (mm 20), .ref (mm 21), .ref (mm 22), .int 0, .int 0, .int 0, .int 0, .ref (mm 23), .ref (mm 24), .ref (mm 25), .int 0])), ((mm 6), .inl (E.2.2 0, 5, .inl (fun _ => 0))), ((mm 7), .inl (E.2.2 0, 25, .inl (fun _ => 0))), ((mm 8), .inl (E.2.2 0, 180, .inl (fun _ => 0))), ((mm 9), .inl (E.2.2 3, 3000, .inl (fun _ => 0))), ((mm 10), .inl (E.2.2 0, 90, .inl (fun _ => 0))), ((mm 11), .inl (E.2.2 0, 300, .inl (fun _ => 0))), ((mm 12), .inl (E.2.2 0, 300, .inl (fun _ => 0))), ((mm 13), .inl (E.2.2 3, 3, .inl (fun _ => 0)))] 97 11645
    refine mp_lsld hL 1 (by decide) (by decide) (by decide) (by decide +kernel) ?_
    show mp_W E X 4 2009 [(3, .int 0), (2, .ref q2), (1, .ref q1), (0, .ref b)] [.int (xs 1), .ref q2, .int 0] [(q2, .inr (10, [.int 0, .ref (mm 1), .ref (mm 2), .ref (mm 3), .ref (mm 4), .ref (mm 5), .int 0, .int 0, .int 0, .int 0, .int 0, .long 0, .int 0, .int 0, .int 0, .int (-1), .ref (mm 6), .ref (mm 7), .ref (mm 8), .ref (mm 9), .ref (mm 10), .ref (mm 11), .ref (mm 12), .ref (mm 13), .int 0, .ref (mm 14), .ref (mm 15), .ref (mm 16), .ref (mm 17), .int 0, .int 0, .int 0, .ref (mm 18), .ref (mm 19), .int 0, .int 0, .ref (mm 20), .ref (mm 21), .ref (mm 22), .int 0, .int 0, .int 0, .int 0, .ref (mm 23), .ref (mm 24), .ref (mm 25), .int 0])), ((mm 6), .inl (E.2.2 0, 5, .inl (fun _ => 0))), ((mm 7), .inl (E.2.2 0, 25, .inl (fun _ => 0))), ((mm 8), .inl (E.2.2 0, 180, .inl (fun _ => 0))), ((mm 9), .inl (E.2.2 3, 3000, .inl (fun _ => 0))), ((mm 10), .inl (E.2.2 0, 90, .inl (fun _ => 0))), ((mm 11), .inl (E.2.2 0, 300, .inl (fun _ => 0))), ((mm 12), .inl (E.2.2 0, 300, .inl (fun _ => 0))), ((mm 13), .inl (E.2.2 3, 3, .inl (fun _ => 0)))] 97 11645
    refine mp_callV hF (As := [.int (xs 1)]) (rest := [.int 0]) (wr := []) (aX10_image_188 E q2 (mm 6) (mm 7) (mm 8) (mm 9) (mm 10) (mm 11) (mm 12) (mm 13) (mm 1) (mm 2) (mm 3) (mm 4) (mm 5) (mm 14) (mm 15) (mm 16) (mm 17) (mm 18) (mm 19) (mm 20) (mm 21) (mm 22) (mm 23) (mm 24) (mm 25) (xs 1)) mp_lkL_243 0 rfl [0, 1, 2, 3, 4, 5, 6, 7, 8] [] rfl rfl rfl rfl rfl ⟨(Nat.le_of_ble_eq_true rfl), (Nat.le_of_ble_eq_true rfl), (Nat.le_of_ble_eq_true rfl), (Nat.le_of_ble_eq_true rfl)⟩ (Nat.le_of_ble_eq_true rfl) (by decide +kernel) (fun v53 w54 h55 => ?_)
    rcases h55 with ⟨rfl, c56, rfl⟩ | ⟨rfl, c57, c58, rfl⟩ | ⟨rfl, c59, c60, rfl⟩
    · skip
      have c56 : (xs 1).toInt < 0 := c56
      exfalso; omega
    · skip
      have c57 : 0 ≤ (xs 1).toInt := c57
      have c58 : 2 < (xs 1).toInt := c58
      exfalso; omega
    · skip
      have c59 : 0 ≤ (xs 1).toInt := c59
      have c60 : (xs 1).toInt ≤ 2 := c60
      show mp_W E X 4 2012 [(3, .int 0), (2, .ref q2), (1, .ref q1), (0, .ref b)] [.int 0, .int 0] [] 97 11645
      refine mp_run hF mp_tabL_ok [mp_h (.if_icmp .eq 207) [2219]] (by decide +kernel) ?_
      refine And.intro (fun _ => ?_) (fun c61 => absurd c61 (by decide))
      show mp_W E X 4 2219 [(3, .int 0), (2, .ref q2), (1, .ref q1), (0, .ref b)] [] [] 97 11645
      exact mp_sub [3, 0] rfl [] rfl rfl (mp_lw_next hL (Nat.le_of_ble_eq_true rfl) (Nat.le_of_ble_eq_true rfl))
  · skip
    have c15 : 0 ≤ (xs 1).toInt := c15
    have c16 : (xs 1).toInt < 3 := c16
    have c17 : (xs 1).toInt = 2 := c17
    show mp_W E X 4 2003 [(3, .int 0), (2, .ref q2), (1, .ref q1), (0, .ref b)] [.int 0] [(q2, .inr (10, [.int 0, .ref (mm 1), .ref (mm 2), .ref (mm 3), .ref (mm 4), .ref (mm 5), .int 0, .int 0, .int 0, .int 0, .int 0, .long 0, .int 0, .int 0, .int 0, .int (-1), .ref (mm 6), .ref (mm 7), .ref (mm 8), .ref (mm 9), .ref (mm 10), .ref (mm 11), .ref (mm 12), .ref (mm 13), .int 0, .ref (mm 14), .ref (mm 15), .ref (mm 16), .ref (mm 17), .int 0, .int 0, .int 0, .ref (mm 18), .ref (mm 19), .int 0, .int 0, .ref (mm 20), .ref (mm 21), .ref (mm 22), .int 0, .int 0, .int 0, .int 0, .ref (mm 23), .ref (mm 24), .ref (mm 25), .int 0])), ((mm 6), .inl (E.2.2 0, 5, .inl (fun _ => 0))), ((mm 7), .inl (E.2.2 0, 25, .inl (fun _ => 0))), ((mm 8), .inl (E.2.2 0, 180, .inl (fun _ => 0))), ((mm 9), .inl (E.2.2 3, 3000, .inl (fun _ => 0))), ((mm 10), .inl (E.2.2 0, 90, .inl (fun _ => 0))), ((mm 11), .inl (E.2.2 0, 300, .inl (fun _ => 0))), ((mm 12), .inl (E.2.2 0, 300, .inl (fun _ => 0))), ((mm 13), .inl (E.2.2 3, 3, .inl (fun _ => 0)))] 97 11645
    refine mp_run hF mp_tabL_ok [mp_i (.aload_n 2), mp_i (.aload_n 0), mp_i (.iload_n 3), mp_c (.iconst 1) 1, mp_i .iadd] (by decide +kernel) ?_
    intro z62 h63
    obtain rfl : z62 = 1 := h63.trans (by decide)
    show mp_W E X 4 2008 [(3, .int 0), (2, .ref q2), (1, .ref q1), (0, .ref b)] [.int 1, .ref b, .ref q2, .int 0] [(q2, .inr (10, [.int 0, .ref (mm 1), .ref (mm 2), .ref (mm 3), .ref (mm 4), .ref (mm 5), .int 0, .int 0, .int 0, .int 0, .int 0, .long 0, .int 0, .int 0, .int 0, .int (-1), .ref (mm 6), .ref (mm 7), .ref (mm 8), .ref (mm 9), .ref (mm 10), .ref (mm 11), .ref (mm 12), .ref (mm 13), .int 0, .ref (mm 14), .ref (mm 15), .ref (mm 16), .ref (mm 17), .int 0, .int 0, .int 0, .ref (mm 18), .ref (mm 19), .int 0, .int 0, .ref (mm 20), .ref (mm 21), .ref (mm 22), .int 0, .int 0, .int 0, .int 0, .ref (mm 23), .ref (mm 24), .ref (mm 25), .int 0])), ((mm 6), .inl (E.2.2 0, 5, .inl (fun _ => 0))), ((mm 7), .inl (E.2.2 0, 25, .inl (fun _ => 0))), ((mm 8), .inl (E.2.2 0, 180, .inl (fun _ => 0))), ((mm 9), .inl (E.2.2 3, 3000, .inl (fun _ => 0))), ((mm 10), .inl (E.2.2 0, 90, .inl (fun _ => 0))), ((mm 11), .inl (E.2.2 0, 300, .inl (fun _ => 0))), ((mm 12), .inl (E.2.2 0, 300, .inl (fun _ => 0))), ((mm 13), .inl (E.2.2 3, 3, .inl (fun _ => 0)))] 97 11645
    refine mp_lsld hL 1 (by decide) (by decide) (by decide) (by decide +kernel) ?_
    show mp_W E X 4 2009 [(3, .int 0), (2, .ref q2), (1, .ref q1), (0, .ref b)] [.int (xs 1), .ref q2, .int 0] [(q2, .inr (10, [.int 0, .ref (mm 1), .ref (mm 2), .ref (mm 3), .ref (mm 4), .ref (mm 5), .int 0, .int 0, .int 0, .int 0, .int 0, .long 0, .int 0, .int 0, .int 0, .int (-1), .ref (mm 6), .ref (mm 7), .ref (mm 8), .ref (mm 9), .ref (mm 10), .ref (mm 11), .ref (mm 12), .ref (mm 13), .int 0, .ref (mm 14), .ref (mm 15), .ref (mm 16), .ref (mm 17), .int 0, .int 0, .int 0, .ref (mm 18), .ref (mm 19), .int 0, .int 0, .ref (mm 20), .ref (mm 21), .ref (mm 22), .int 0, .int 0, .int 0, .int 0, .ref (mm 23), .ref (mm 24), .ref (mm 25), .int 0])), ((mm 6), .inl (E.2.2 0, 5, .inl (fun _ => 0))), ((mm 7), .inl (E.2.2 0, 25, .inl (fun _ => 0))), ((mm 8), .inl (E.2.2 0, 180, .inl (fun _ => 0))), ((mm 9), .inl (E.2.2 3, 3000, .inl (fun _ => 0))), ((mm 10), .inl (E.2.2 0, 90, .inl (fun _ => 0))), ((mm 11), .inl (E.2.2 0, 300, .inl (fun _ => 0))), ((mm 12), .inl (E.2.2 0, 300, .inl (fun _ => 0))), ((mm 13), .inl (E.2.2 3, 3, .inl (fun _ => 0)))] 97 11645
    refine mp_callV hF (As := [.int (xs 1)]) (rest := [.int 0]) (wr := []) (aX10_image_188 E q2 (mm 6) (mm 7) (mm 8) (mm 9) (mm 10) (mm 11) (mm 12) (mm 13) (mm 1) (mm 2) (mm 3) (mm 4) (mm 5) (mm 14) (mm 15) (mm 16) (mm 17) (mm 18) (mm 19) (mm 20) (mm 21) (mm 22) (mm 23) (mm 24) (mm 25) (xs 1)) mp_lkL_243 0 rfl [0, 1, 2, 3, 4, 5, 6, 7, 8] [] rfl rfl rfl rfl rfl ⟨(Nat.le_of_ble_eq_true rfl), (Nat.le_of_ble_eq_true rfl), (Nat.le_of_ble_eq_true rfl), (Nat.le_of_ble_eq_true rfl)⟩ (Nat.le_of_ble_eq_true rfl) (by decide +kernel) (fun v64 w65 h66 => ?_)
    rcases h66 with ⟨rfl, c67, rfl⟩ | ⟨rfl, c68, c69, rfl⟩ | ⟨rfl, c70, c71, rfl⟩
    · skip
      have c67 : (xs 1).toInt < 0 := c67
      exfalso; omega
    · skip
      have c68 : 0 ≤ (xs 1).toInt := c68
      have c69 : 2 < (xs 1).toInt := c69
      exfalso; omega
    · skip
      have c70 : 0 ≤ (xs 1).toInt := c70
      have c71 : (xs 1).toInt ≤ 2 := c71
      show mp_W E X 4 2012 [(3, .int 0), (2, .ref q2), (1, .ref q1), (0, .ref b)] [.int 0, .int 0] [] 97 11645
      refine mp_run hF mp_tabL_ok [mp_h (.if_icmp .eq 207) [2219]] (by decide +kernel) ?_
      refine And.intro (fun _ => ?_) (fun c72 => absurd c72 (by decide))
      show mp_W E X 4 2219 [(3, .int 0), (2, .ref q2), (1, .ref q1), (0, .ref b)] [] [] 97 11645
      exact mp_sub [3, 0] rfl [] rfl rfl (mp_lw_next hL (Nat.le_of_ble_eq_true rfl) (Nat.le_of_ble_eq_true rfl))

set_option maxHeartbeats 4000000 in
set_option maxRecDepth 100000 in
theorem mp_case_56 {E : mp_E} {X : mp_X} {b : Nat} {xs : Nat → Int32} (hL : mp_Lw E X b 6 xs) (q1 q2 : Nat) (bb mm : Nat → Nat) (vs ln wd : Nat → Int32) (hln : ∀ j, j < 4 → ln j = -1) (hwd : ∀ j, j < 4 → wd j = -1) : mp_W E X 4 2017 [(3, .int 0), (2, .ref q2), (1, .ref q1), (0, .ref b)] [] (mp_w0 E q1 q2 bb mm vs ln wd) 84 11441 := by
  have hF : mp_F E X (RL, code, 4, (2048, 600000, 7302250, 84000), ret, false) := hL.1
  show mp_W E X 4 2017 [(3, .int 0), (2, .ref q2), (1, .ref q1), (0, .ref b)] [] (mp_w0 E q1 q2 bb mm vs ln wd) 84 11441
  refine mp_run hF mp_tabL_ok [mp_i (.aload_n 1), mp_i (.aload_n 0), mp_i (.iload_n 3), mp_c (.iconst 1) 1, mp_i .iadd] (by decide +kernel) ?_
  intro z1 h2
  obtain rfl : z1 = 1 := h2.trans (by decide)
  show mp_W E X 4 2022 [(3, .int 0), (2, .ref q2), (1, .ref q1), (0, .ref b)] [.int 1, .ref b, .ref q1] (mp_w0 E q1 q2 bb mm vs ln wd) 84 11441
  refine mp_lsld hL 1 (by decide) (by decide) (by decide) (by decide +kernel) ?_
  show mp_W E X 4 2023 [(3, .int 0), (2, .ref q2), (1, .ref q1), (0, .ref b)] [.int (xs 1), .ref q1] (mp_w0 E q1 q2 bb mm vs ln wd) 84 11441
  refine mp_callV hF (As := [.int (xs 1)]) (rest := []) (wr := [(q2, .inr (10, [.int 0, .ref (mm 1), .ref (mm 2), .ref (mm 3), .ref (mm 4), .ref (mm 5), .int 0, .int 0, .int 0, .int 0, .int 0, .long 0, .int 0, .int 0, .int 0, .int (-1), .ref (mm 6), .ref (mm 7), .ref (mm 8), .ref (mm 9), .ref (mm 10), .ref (mm 11), .ref (mm 12), .ref (mm 13), .int 0, .ref (mm 14), .ref (mm 15), .ref (mm 16), .ref (mm 17), .int 0, .int 0, .int 0, .ref (mm 18), .ref (mm 19), .int 0, .int 0, .ref (mm 20), .ref (mm 21), .ref (mm 22), .int 0, .int 0, .int 0, .int 0, .ref (mm 23), .ref (mm 24), .ref (mm 25), .int 0])), ((mm 13), .inl (E.2.2 3, 3, .inl (fun _ => 0)))]) (aX9_back_189 E q1 (bb 36) (bb 1) (bb 16) (bb 37) (bb 40) (bb 46) (bb 49) (bb 52) (bb 54) (xs 1)) mp_lkL_244 0 rfl [0, 36] [58, 71] rfl rfl rfl rfl rfl ⟨(Nat.le_of_ble_eq_true rfl), (Nat.le_of_ble_eq_true rfl), (Nat.le_of_ble_eq_true rfl), (Nat.le_of_ble_eq_true rfl)⟩ (Nat.le_of_ble_eq_true rfl) (by decide +kernel) (fun v3 w4 h5 => ?_)
  rcases h5 with ⟨rfl, c6, rfl⟩ | ⟨rfl, c7, c8, rfl⟩ | ⟨rfl, c9, c10, c11, rfl⟩ | ⟨rfl, c12, c13, c14, rfl⟩ | ⟨rfl, c15, c16, c17, rfl⟩
  · skip
    have c6 : (xs 1).toInt < 0 := c6
    show mp_W E X 4 2026 [(3, .int 0), (2, .ref q2), (1, .ref q1), (0, .ref b)] [.int (-2)] [(q2, .inr (10, [.int 0, .ref (mm 1), .ref (mm 2), .ref (mm 3), .ref (mm 4), .ref (mm 5), .int 0, .int 0, .int 0, .int 0, .int 0, .long 0, .int 0, .int 0, .int 0, .int (-1), .ref (mm 6), .ref (mm 7), .ref (mm 8), .ref (mm 9), .ref (mm 10), .ref (mm 11), .ref (mm 12), .ref (mm 13), .int 0, .ref (mm 14), .ref (mm 15), .ref (mm 16), .ref (mm 17), .int 0, .int 0, .int 0, .ref (mm 18), .ref (mm 19), .int 0, .int 0, .ref (mm 20), .ref (mm 21), .ref (mm 22), .int 0, .int 0, .int 0, .int 0, .ref (mm 23), .ref (mm 24), .ref (mm 25), .int 0])), ((mm 13), .inl (E.2.2 3, 3, .inl (fun _ => 0)))] 84 11441
    refine mp_run hF mp_tabL_ok [mp_i (.aload_n 2), mp_i (.aload_n 0), mp_i (.iload_n 3), mp_c (.iconst 1) 1, mp_i .iadd] (by decide +kernel) ?_
    intro z18 h19
    obtain rfl : z18 = 1 := h19.trans (by decide)
    show mp_W E X 4 2031 [(3, .int 0), (2, .ref q2), (1, .ref q1), (0, .ref b)] [.int 1, .ref b, .ref q2, .int (-2)] [(q2, .inr (10, [.int 0, .ref (mm 1), .ref (mm 2), .ref (mm 3), .ref (mm 4), .ref (mm 5), .int 0, .int 0, .int 0, .int 0, .int 0, .long 0, .int 0, .int 0, .int 0, .int (-1), .ref (mm 6), .ref (mm 7), .ref (mm 8), .ref (mm 9), .ref (mm 10), .ref (mm 11), .ref (mm 12), .ref (mm 13), .int 0, .ref (mm 14), .ref (mm 15), .ref (mm 16), .ref (mm 17), .int 0, .int 0, .int 0, .ref (mm 18), .ref (mm 19), .int 0, .int 0, .ref (mm 20), .ref (mm 21), .ref (mm 22), .int 0, .int 0, .int 0, .int 0, .ref (mm 23), .ref (mm 24), .ref (mm 25), .int 0])), ((mm 13), .inl (E.2.2 3, 3, .inl (fun _ => 0)))] 84 11441
    refine mp_lsld hL 1 (by decide) (by decide) (by decide) (by decide +kernel) ?_
    show mp_W E X 4 2032 [(3, .int 0), (2, .ref q2), (1, .ref q1), (0, .ref b)] [.int (xs 1), .ref q2, .int (-2)] [(q2, .inr (10, [.int 0, .ref (mm 1), .ref (mm 2), .ref (mm 3), .ref (mm 4), .ref (mm 5), .int 0, .int 0, .int 0, .int 0, .int 0, .long 0, .int 0, .int 0, .int 0, .int (-1), .ref (mm 6), .ref (mm 7), .ref (mm 8), .ref (mm 9), .ref (mm 10), .ref (mm 11), .ref (mm 12), .ref (mm 13), .int 0, .ref (mm 14), .ref (mm 15), .ref (mm 16), .ref (mm 17), .int 0, .int 0, .int 0, .ref (mm 18), .ref (mm 19), .int 0, .int 0, .ref (mm 20), .ref (mm 21), .ref (mm 22), .int 0, .int 0, .int 0, .int 0, .ref (mm 23), .ref (mm 24), .ref (mm 25), .int 0])), ((mm 13), .inl (E.2.2 3, 3, .inl (fun _ => 0)))] 84 11441
    refine mp_callV hF (As := [.int (xs 1)]) (rest := [.int (-2)]) (wr := []) (aX10_back_190 E q2 (mm 13) (mm 1) (mm 2) (mm 3) (mm 4) (mm 5) (mm 6) (mm 7) (mm 8) (mm 9) (mm 10) (mm 11) (mm 12) (mm 14) (mm 15) (mm 16) (mm 17) (mm 18) (mm 19) (mm 20) (mm 21) (mm 22) (mm 23) (mm 24) (mm 25) (xs 1)) mp_lkL_247 0 rfl [0, 1] [] rfl rfl rfl rfl rfl ⟨(Nat.le_of_ble_eq_true rfl), (Nat.le_of_ble_eq_true rfl), (Nat.le_of_ble_eq_true rfl), (Nat.le_of_ble_eq_true rfl)⟩ (Nat.le_of_ble_eq_true rfl) (by decide +kernel) (fun v20 w21 h22 => ?_)
    rcases h22 with ⟨rfl, c23, rfl⟩ | ⟨rfl, c24, c25, rfl⟩ | ⟨rfl, c26, c27, rfl⟩
    · skip
      have c23 : (xs 1).toInt < 0 := c23
      show mp_W E X 4 2035 [(3, .int 0), (2, .ref q2), (1, .ref q1), (0, .ref b)] [.int (-2), .int (-2)] [] 84 11441
      refine mp_run hF mp_tabL_ok [mp_h (.if_icmp .eq 184) [2219]] (by decide +kernel) ?_
      refine And.intro (fun _ => ?_) (fun c28 => absurd c28 (by decide))
      show mp_W E X 4 2219 [(3, .int 0), (2, .ref q2), (1, .ref q1), (0, .ref b)] [] [] 84 11441
      exact mp_sub [3, 0] rfl [] rfl rfl (mp_lw_next hL (Nat.le_of_ble_eq_true rfl) (Nat.le_of_ble_eq_true rfl))
    · skip
      have c24 : 0 ≤ (xs 1).toInt := c24
      have c25 : 2 < (xs 1).toInt := c25
      exfalso; omega
    · skip
      have c26 : 0 ≤ (xs 1).toInt := c26
      have c27 : (xs 1).toInt ≤ 2 := c27
      exfalso; omega
  · skip
    have c7 : 0 ≤ (xs 1).toInt := c7
    have c8 : 3 ≤ (xs 1).toInt := c8
    show mp_W E X 4 2026 [(3, .int 0), (2, .ref q2), (1, .ref q1), (0, .ref b)] [.int (-2)] [(q2, .inr (10, [.int 0, .ref (mm 1), .ref (mm 2), .ref (mm 3), .ref (mm 4), .ref (mm 5), .int 0, .int 0, .int 0, .int 0, .int 0, .long 0, .int 0, .int 0, .int 0, .int (-1), .ref (mm 6), .ref (mm 7), .ref (mm 8), .ref (mm 9), .ref (mm 10), .ref (mm 11), .ref (mm 12), .ref (mm 13), .int 0, .ref (mm 14), .ref (mm 15), .ref (mm 16), .ref (mm 17), .int 0, .int 0, .int 0, .ref (mm 18), .ref (mm 19), .int 0, .int 0, .ref (mm 20), .ref (mm 21), .ref (mm 22), .int 0, .int 0, .int 0, .int 0, .ref (mm 23), .ref (mm 24), .ref (mm 25), .int 0])), ((mm 13), .inl (E.2.2 3, 3, .inl (fun _ => 0)))] 84 11441
    refine mp_run hF mp_tabL_ok [mp_i (.aload_n 2), mp_i (.aload_n 0), mp_i (.iload_n 3), mp_c (.iconst 1) 1, mp_i .iadd] (by decide +kernel) ?_
    intro z29 h30
    obtain rfl : z29 = 1 := h30.trans (by decide)
    show mp_W E X 4 2031 [(3, .int 0), (2, .ref q2), (1, .ref q1), (0, .ref b)] [.int 1, .ref b, .ref q2, .int (-2)] [(q2, .inr (10, [.int 0, .ref (mm 1), .ref (mm 2), .ref (mm 3), .ref (mm 4), .ref (mm 5), .int 0, .int 0, .int 0, .int 0, .int 0, .long 0, .int 0, .int 0, .int 0, .int (-1), .ref (mm 6), .ref (mm 7), .ref (mm 8), .ref (mm 9), .ref (mm 10), .ref (mm 11), .ref (mm 12), .ref (mm 13), .int 0, .ref (mm 14), .ref (mm 15), .ref (mm 16), .ref (mm 17), .int 0, .int 0, .int 0, .ref (mm 18), .ref (mm 19), .int 0, .int 0, .ref (mm 20), .ref (mm 21), .ref (mm 22), .int 0, .int 0, .int 0, .int 0, .ref (mm 23), .ref (mm 24), .ref (mm 25), .int 0])), ((mm 13), .inl (E.2.2 3, 3, .inl (fun _ => 0)))] 84 11441
    refine mp_lsld hL 1 (by decide) (by decide) (by decide) (by decide +kernel) ?_
    show mp_W E X 4 2032 [(3, .int 0), (2, .ref q2), (1, .ref q1), (0, .ref b)] [.int (xs 1), .ref q2, .int (-2)] [(q2, .inr (10, [.int 0, .ref (mm 1), .ref (mm 2), .ref (mm 3), .ref (mm 4), .ref (mm 5), .int 0, .int 0, .int 0, .int 0, .int 0, .long 0, .int 0, .int 0, .int 0, .int (-1), .ref (mm 6), .ref (mm 7), .ref (mm 8), .ref (mm 9), .ref (mm 10), .ref (mm 11), .ref (mm 12), .ref (mm 13), .int 0, .ref (mm 14), .ref (mm 15), .ref (mm 16), .ref (mm 17), .int 0, .int 0, .int 0, .ref (mm 18), .ref (mm 19), .int 0, .int 0, .ref (mm 20), .ref (mm 21), .ref (mm 22), .int 0, .int 0, .int 0, .int 0, .ref (mm 23), .ref (mm 24), .ref (mm 25), .int 0])), ((mm 13), .inl (E.2.2 3, 3, .inl (fun _ => 0)))] 84 11441
    refine mp_callV hF (As := [.int (xs 1)]) (rest := [.int (-2)]) (wr := []) (aX10_back_190 E q2 (mm 13) (mm 1) (mm 2) (mm 3) (mm 4) (mm 5) (mm 6) (mm 7) (mm 8) (mm 9) (mm 10) (mm 11) (mm 12) (mm 14) (mm 15) (mm 16) (mm 17) (mm 18) (mm 19) (mm 20) (mm 21) (mm 22) (mm 23) (mm 24) (mm 25) (xs 1)) mp_lkL_247 0 rfl [0, 1] [] rfl rfl rfl rfl rfl ⟨(Nat.le_of_ble_eq_true rfl), (Nat.le_of_ble_eq_true rfl), (Nat.le_of_ble_eq_true rfl), (Nat.le_of_ble_eq_true rfl)⟩ (Nat.le_of_ble_eq_true rfl) (by decide +kernel) (fun v31 w32 h33 => ?_)
    rcases h33 with ⟨rfl, c34, rfl⟩ | ⟨rfl, c35, c36, rfl⟩ | ⟨rfl, c37, c38, rfl⟩
    · skip
      have c34 : (xs 1).toInt < 0 := c34
      exfalso; omega
    · skip
      have c35 : 0 ≤ (xs 1).toInt := c35
      have c36 : 2 < (xs 1).toInt := c36
      show mp_W E X 4 2035 [(3, .int 0), (2, .ref q2), (1, .ref q1), (0, .ref b)] [.int (-2), .int (-2)] [] 84 11441
      refine mp_run hF mp_tabL_ok [mp_h (.if_icmp .eq 184) [2219]] (by decide +kernel) ?_
      refine And.intro (fun _ => ?_) (fun c39 => absurd c39 (by decide))
      show mp_W E X 4 2219 [(3, .int 0), (2, .ref q2), (1, .ref q1), (0, .ref b)] [] [] 84 11441
      exact mp_sub [3, 0] rfl [] rfl rfl (mp_lw_next hL (Nat.le_of_ble_eq_true rfl) (Nat.le_of_ble_eq_true rfl))
    · skip
      have c37 : 0 ≤ (xs 1).toInt := c37
      have c38 : (xs 1).toInt ≤ 2 := c38
      exfalso; omega
  · skip
    have c9 : 0 ≤ (xs 1).toInt := c9
    have c10 : (xs 1).toInt < 3 := c10
    have c11 : (xs 1).toInt = 0 := c11
    show mp_W E X 4 2026 [(3, .int 0), (2, .ref q2), (1, .ref q1), (0, .ref b)] [.int (-6)] [(q2, .inr (10, [.int 0, .ref (mm 1), .ref (mm 2), .ref (mm 3), .ref (mm 4), .ref (mm 5), .int 0, .int 0, .int 0, .int 0, .int 0, .long 0, .int 0, .int 0, .int 0, .int (-1), .ref (mm 6), .ref (mm 7), .ref (mm 8), .ref (mm 9), .ref (mm 10), .ref (mm 11), .ref (mm 12), .ref (mm 13), .int 0, .ref (mm 14), .ref (mm 15), .ref (mm 16), .ref (mm 17), .int 0, .int 0, .int 0, .ref (mm 18), .ref (mm 19), .int 0, .int 0, .ref (mm 20), .ref (mm 21), .ref (mm 22), .int 0, .int 0, .int 0, .int 0, .ref (mm 23), .ref (mm 24), .ref (mm 25), .int 0])), ((mm 13), .inl (E.2.2 3, 3, .inl (fun _ => 0)))] 84 11441
    refine mp_run hF mp_tabL_ok [mp_i (.aload_n 2), mp_i (.aload_n 0), mp_i (.iload_n 3), mp_c (.iconst 1) 1, mp_i .iadd] (by decide +kernel) ?_
    intro z40 h41
    obtain rfl : z40 = 1 := h41.trans (by decide)
    show mp_W E X 4 2031 [(3, .int 0), (2, .ref q2), (1, .ref q1), (0, .ref b)] [.int 1, .ref b, .ref q2, .int (-6)] [(q2, .inr (10, [.int 0, .ref (mm 1), .ref (mm 2), .ref (mm 3), .ref (mm 4), .ref (mm 5), .int 0, .int 0, .int 0, .int 0, .int 0, .long 0, .int 0, .int 0, .int 0, .int (-1), .ref (mm 6), .ref (mm 7), .ref (mm 8), .ref (mm 9), .ref (mm 10), .ref (mm 11), .ref (mm 12), .ref (mm 13), .int 0, .ref (mm 14), .ref (mm 15), .ref (mm 16), .ref (mm 17), .int 0, .int 0, .int 0, .ref (mm 18), .ref (mm 19), .int 0, .int 0, .ref (mm 20), .ref (mm 21), .ref (mm 22), .int 0, .int 0, .int 0, .int 0, .ref (mm 23), .ref (mm 24), .ref (mm 25), .int 0])), ((mm 13), .inl (E.2.2 3, 3, .inl (fun _ => 0)))] 84 11441
    refine mp_lsld hL 1 (by decide) (by decide) (by decide) (by decide +kernel) ?_
    show mp_W E X 4 2032 [(3, .int 0), (2, .ref q2), (1, .ref q1), (0, .ref b)] [.int (xs 1), .ref q2, .int (-6)] [(q2, .inr (10, [.int 0, .ref (mm 1), .ref (mm 2), .ref (mm 3), .ref (mm 4), .ref (mm 5), .int 0, .int 0, .int 0, .int 0, .int 0, .long 0, .int 0, .int 0, .int 0, .int (-1), .ref (mm 6), .ref (mm 7), .ref (mm 8), .ref (mm 9), .ref (mm 10), .ref (mm 11), .ref (mm 12), .ref (mm 13), .int 0, .ref (mm 14), .ref (mm 15), .ref (mm 16), .ref (mm 17), .int 0, .int 0, .int 0, .ref (mm 18), .ref (mm 19), .int 0, .int 0, .ref (mm 20), .ref (mm 21), .ref (mm 22), .int 0, .int 0, .int 0, .int 0, .ref (mm 23), .ref (mm 24), .ref (mm 25), .int 0])), ((mm 13), .inl (E.2.2 3, 3, .inl (fun _ => 0)))] 84 11441
    refine mp_callV hF (As := [.int (xs 1)]) (rest := [.int (-6)]) (wr := []) (aX10_back_190 E q2 (mm 13) (mm 1) (mm 2) (mm 3) (mm 4) (mm 5) (mm 6) (mm 7) (mm 8) (mm 9) (mm 10) (mm 11) (mm 12) (mm 14) (mm 15) (mm 16) (mm 17) (mm 18) (mm 19) (mm 20) (mm 21) (mm 22) (mm 23) (mm 24) (mm 25) (xs 1)) mp_lkL_247 0 rfl [0, 1] [] rfl rfl rfl rfl rfl ⟨(Nat.le_of_ble_eq_true rfl), (Nat.le_of_ble_eq_true rfl), (Nat.le_of_ble_eq_true rfl), (Nat.le_of_ble_eq_true rfl)⟩ (Nat.le_of_ble_eq_true rfl) (by decide +kernel) (fun v42 w43 h44 => ?_)
    rcases h44 with ⟨rfl, c45, rfl⟩ | ⟨rfl, c46, c47, rfl⟩ | ⟨rfl, c48, c49, rfl⟩
    · skip
      have c45 : (xs 1).toInt < 0 := c45
      exfalso; omega
    · skip
      have c46 : 0 ≤ (xs 1).toInt := c46
      have c47 : 2 < (xs 1).toInt := c47
      exfalso; omega
    · skip
      have c48 : 0 ≤ (xs 1).toInt := c48
      have c49 : (xs 1).toInt ≤ 2 := c49
      show mp_W E X 4 2035 [(3, .int 0), (2, .ref q2), (1, .ref q1), (0, .ref b)] [.int (-6), .int (-6)] [] 84 11441
      refine mp_run hF mp_tabL_ok [mp_h (.if_icmp .eq 184) [2219]] (by decide +kernel) ?_
      refine And.intro (fun _ => ?_) (fun c50 => absurd c50 (by decide))
      show mp_W E X 4 2219 [(3, .int 0), (2, .ref q2), (1, .ref q1), (0, .ref b)] [] [] 84 11441
      exact mp_sub [3, 0] rfl [] rfl rfl (mp_lw_next hL (Nat.le_of_ble_eq_true rfl) (Nat.le_of_ble_eq_true rfl))
  · skip
    have c12 : 0 ≤ (xs 1).toInt := c12
    have c13 : (xs 1).toInt < 3 := c13
    have c14 : (xs 1).toInt = 1 := c14
    show mp_W E X 4 2026 [(3, .int 0), (2, .ref q2), (1, .ref q1), (0, .ref b)] [.int (-6)] [(q2, .inr (10, [.int 0, .ref (mm 1), .ref (mm 2), .ref (mm 3), .ref (mm 4), .ref (mm 5), .int 0, .int 0, .int 0, .int 0, .int 0, .long 0, .int 0, .int 0, .int 0, .int (-1), .ref (mm 6), .ref (mm 7), .ref (mm 8), .ref (mm 9), .ref (mm 10), .ref (mm 11), .ref (mm 12), .ref (mm 13), .int 0, .ref (mm 14), .ref (mm 15), .ref (mm 16), .ref (mm 17), .int 0, .int 0, .int 0, .ref (mm 18), .ref (mm 19), .int 0, .int 0, .ref (mm 20), .ref (mm 21), .ref (mm 22), .int 0, .int 0, .int 0, .int 0, .ref (mm 23), .ref (mm 24), .ref (mm 25), .int 0])), ((mm 13), .inl (E.2.2 3, 3, .inl (fun _ => 0)))] 84 11441
    refine mp_run hF mp_tabL_ok [mp_i (.aload_n 2), mp_i (.aload_n 0), mp_i (.iload_n 3), mp_c (.iconst 1) 1, mp_i .iadd] (by decide +kernel) ?_
    intro z51 h52
    obtain rfl : z51 = 1 := h52.trans (by decide)
    show mp_W E X 4 2031 [(3, .int 0), (2, .ref q2), (1, .ref q1), (0, .ref b)] [.int 1, .ref b, .ref q2, .int (-6)] [(q2, .inr (10, [.int 0, .ref (mm 1), .ref (mm 2), .ref (mm 3), .ref (mm 4), .ref (mm 5), .int 0, .int 0, .int 0, .int 0, .int 0, .long 0, .int 0, .int 0, .int 0, .int (-1), .ref (mm 6), .ref (mm 7), .ref (mm 8), .ref (mm 9), .ref (mm 10), .ref (mm 11), .ref (mm 12), .ref (mm 13), .int 0, .ref (mm 14), .ref (mm 15), .ref (mm 16), .ref (mm 17), .int 0, .int 0, .int 0, .ref (mm 18), .ref (mm 19), .int 0, .int 0, .ref (mm 20), .ref (mm 21), .ref (mm 22), .int 0, .int 0, .int 0, .int 0, .ref (mm 23), .ref (mm 24), .ref (mm 25), .int 0])), ((mm 13), .inl (E.2.2 3, 3, .inl (fun _ => 0)))] 84 11441
    refine mp_lsld hL 1 (by decide) (by decide) (by decide) (by decide +kernel) ?_
    show mp_W E X 4 2032 [(3, .int 0), (2, .ref q2), (1, .ref q1), (0, .ref b)] [.int (xs 1), .ref q2, .int (-6)] [(q2, .inr (10, [.int 0, .ref (mm 1), .ref (mm 2), .ref (mm 3), .ref (mm 4), .ref (mm 5), .int 0, .int 0, .int 0, .int 0, .int 0, .long 0, .int 0, .int 0, .int 0, .int (-1), .ref (mm 6), .ref (mm 7), .ref (mm 8), .ref (mm 9), .ref (mm 10), .ref (mm 11), .ref (mm 12), .ref (mm 13), .int 0, .ref (mm 14), .ref (mm 15), .ref (mm 16), .ref (mm 17), .int 0, .int 0, .int 0, .ref (mm 18), .ref (mm 19), .int 0, .int 0, .ref (mm 20), .ref (mm 21), .ref (mm 22), .int 0, .int 0, .int 0, .int 0, .ref (mm 23), .ref (mm 24), .ref (mm 25), .int 0])), ((mm 13), .inl (E.2.2 3, 3, .inl (fun _ => 0)))] 84 11441
    refine mp_callV hF (As := [.int (xs 1)]) (rest := [.int (-6)]) (wr := []) (aX10_back_190 E q2 (mm 13) (mm 1) (mm 2) (mm 3) (mm 4) (mm 5) (mm 6) (mm 7) (mm 8) (mm 9) (mm 10) (mm 11) (mm 12) (mm 14) (mm 15) (mm 16) (mm 17) (mm 18) (mm 19) (mm 20) (mm 21) (mm 22) (mm 23) (mm 24) (mm 25) (xs 1)) mp_lkL_247 0 rfl [0, 1] [] rfl rfl rfl rfl rfl ⟨(Nat.le_of_ble_eq_true rfl), (Nat.le_of_ble_eq_true rfl), (Nat.le_of_ble_eq_true rfl), (Nat.le_of_ble_eq_true rfl)⟩ (Nat.le_of_ble_eq_true rfl) (by decide +kernel) (fun v53 w54 h55 => ?_)
    rcases h55 with ⟨rfl, c56, rfl⟩ | ⟨rfl, c57, c58, rfl⟩ | ⟨rfl, c59, c60, rfl⟩
    · skip
      have c56 : (xs 1).toInt < 0 := c56
      exfalso; omega
    · skip
      have c57 : 0 ≤ (xs 1).toInt := c57
      have c58 : 2 < (xs 1).toInt := c58
      exfalso; omega
    · skip
      have c59 : 0 ≤ (xs 1).toInt := c59
      have c60 : (xs 1).toInt ≤ 2 := c60
      show mp_W E X 4 2035 [(3, .int 0), (2, .ref q2), (1, .ref q1), (0, .ref b)] [.int (-6), .int (-6)] [] 84 11441
      refine mp_run hF mp_tabL_ok [mp_h (.if_icmp .eq 184) [2219]] (by decide +kernel) ?_
      refine And.intro (fun _ => ?_) (fun c61 => absurd c61 (by decide))
      show mp_W E X 4 2219 [(3, .int 0), (2, .ref q2), (1, .ref q1), (0, .ref b)] [] [] 84 11441
      exact mp_sub [3, 0] rfl [] rfl rfl (mp_lw_next hL (Nat.le_of_ble_eq_true rfl) (Nat.le_of_ble_eq_true rfl))
  · skip
    have c15 : 0 ≤ (xs 1).toInt := c15
    have c16 : (xs 1).toInt < 3 := c16
    have c17 : (xs 1).toInt = 2 := c17
    show mp_W E X 4 2026 [(3, .int 0), (2, .ref q2), (1, .ref q1), (0, .ref b)] [.int (-6)] [(q2, .inr (10, [.int 0, .ref (mm 1), .ref (mm 2), .ref (mm 3), .ref (mm 4), .ref (mm 5), .int 0, .int 0, .int 0, .int 0, .int 0, .long 0, .int 0, .int 0, .int 0, .int (-1), .ref (mm 6), .ref (mm 7), .ref (mm 8), .ref (mm 9), .ref (mm 10), .ref (mm 11), .ref (mm 12), .ref (mm 13), .int 0, .ref (mm 14), .ref (mm 15), .ref (mm 16), .ref (mm 17), .int 0, .int 0, .int 0, .ref (mm 18), .ref (mm 19), .int 0, .int 0, .ref (mm 20), .ref (mm 21), .ref (mm 22), .int 0, .int 0, .int 0, .int 0, .ref (mm 23), .ref (mm 24), .ref (mm 25), .int 0])), ((mm 13), .inl (E.2.2 3, 3, .inl (fun _ => 0)))] 84 11441
    refine mp_run hF mp_tabL_ok [mp_i (.aload_n 2), mp_i (.aload_n 0), mp_i (.iload_n 3), mp_c (.iconst 1) 1, mp_i .iadd] (by decide +kernel) ?_
    intro z62 h63
    obtain rfl : z62 = 1 := h63.trans (by decide)
    show mp_W E X 4 2031 [(3, .int 0), (2, .ref q2), (1, .ref q1), (0, .ref b)] [.int 1, .ref b, .ref q2, .int (-6)] [(q2, .inr (10, [.int 0, .ref (mm 1), .ref (mm 2), .ref (mm 3), .ref (mm 4), .ref (mm 5), .int 0, .int 0, .int 0, .int 0, .int 0, .long 0, .int 0, .int 0, .int 0, .int (-1), .ref (mm 6), .ref (mm 7), .ref (mm 8), .ref (mm 9), .ref (mm 10), .ref (mm 11), .ref (mm 12), .ref (mm 13), .int 0, .ref (mm 14), .ref (mm 15), .ref (mm 16), .ref (mm 17), .int 0, .int 0, .int 0, .ref (mm 18), .ref (mm 19), .int 0, .int 0, .ref (mm 20), .ref (mm 21), .ref (mm 22), .int 0, .int 0, .int 0, .int 0, .ref (mm 23), .ref (mm 24), .ref (mm 25), .int 0])), ((mm 13), .inl (E.2.2 3, 3, .inl (fun _ => 0)))] 84 11441
    refine mp_lsld hL 1 (by decide) (by decide) (by decide) (by decide +kernel) ?_
    show mp_W E X 4 2032 [(3, .int 0), (2, .ref q2), (1, .ref q1), (0, .ref b)] [.int (xs 1), .ref q2, .int (-6)] [(q2, .inr (10, [.int 0, .ref (mm 1), .ref (mm 2), .ref (mm 3), .ref (mm 4), .ref (mm 5), .int 0, .int 0, .int 0, .int 0, .int 0, .long 0, .int 0, .int 0, .int 0, .int (-1), .ref (mm 6), .ref (mm 7), .ref (mm 8), .ref (mm 9), .ref (mm 10), .ref (mm 11), .ref (mm 12), .ref (mm 13), .int 0, .ref (mm 14), .ref (mm 15), .ref (mm 16), .ref (mm 17), .int 0, .int 0, .int 0, .ref (mm 18), .ref (mm 19), .int 0, .int 0, .ref (mm 20), .ref (mm 21), .ref (mm 22), .int 0, .int 0, .int 0, .int 0, .ref (mm 23), .ref (mm 24), .ref (mm 25), .int 0])), ((mm 13), .inl (E.2.2 3, 3, .inl (fun _ => 0)))] 84 11441
    refine mp_callV hF (As := [.int (xs 1)]) (rest := [.int (-6)]) (wr := []) (aX10_back_190 E q2 (mm 13) (mm 1) (mm 2) (mm 3) (mm 4) (mm 5) (mm 6) (mm 7) (mm 8) (mm 9) (mm 10) (mm 11) (mm 12) (mm 14) (mm 15) (mm 16) (mm 17) (mm 18) (mm 19) (mm 20) (mm 21) (mm 22) (mm 23) (mm 24) (mm 25) (xs 1)) mp_lkL_247 0 rfl [0, 1] [] rfl rfl rfl rfl rfl ⟨(Nat.le_of_ble_eq_true rfl), (Nat.le_of_ble_eq_true rfl), (Nat.le_of_ble_eq_true rfl), (Nat.le_of_ble_eq_true rfl)⟩ (Nat.le_of_ble_eq_true rfl) (by decide +kernel) (fun v64 w65 h66 => ?_)
    rcases h66 with ⟨rfl, c67, rfl⟩ | ⟨rfl, c68, c69, rfl⟩ | ⟨rfl, c70, c71, rfl⟩
    · skip
      have c67 : (xs 1).toInt < 0 := c67
      exfalso; omega
    · skip
      have c68 : 0 ≤ (xs 1).toInt := c68
      have c69 : 2 < (xs 1).toInt := c69
      exfalso; omega
    · skip
      have c70 : 0 ≤ (xs 1).toInt := c70
      have c71 : (xs 1).toInt ≤ 2 := c71
      show mp_W E X 4 2035 [(3, .int 0), (2, .ref q2), (1, .ref q1), (0, .ref b)] [.int (-6), .int (-6)] [] 84 11441
      refine mp_run hF mp_tabL_ok [mp_h (.if_icmp .eq 184) [2219]] (by decide +kernel) ?_
      refine And.intro (fun _ => ?_) (fun c72 => absurd c72 (by decide))
      show mp_W E X 4 2219 [(3, .int 0), (2, .ref q2), (1, .ref q1), (0, .ref b)] [] [] 84 11441
      exact mp_sub [3, 0] rfl [] rfl rfl (mp_lw_next hL (Nat.le_of_ble_eq_true rfl) (Nat.le_of_ble_eq_true rfl))

set_option maxHeartbeats 4000000 in
set_option maxRecDepth 100000 in
theorem mp_case_57 {E : mp_E} {X : mp_X} {b : Nat} {xs : Nat → Int32} (hL : mp_Lw E X b 6 xs) (q1 q2 : Nat) (bb mm : Nat → Nat) (vs ln wd : Nat → Int32) (hln : ∀ j, j < 4 → ln j = -1) (hwd : ∀ j, j < 4 → wd j = -1) : mp_W E X 4 2040 [(3, .int 0), (2, .ref q2), (1, .ref q1), (0, .ref b)] [] (mp_w0 E q1 q2 bb mm vs ln wd) 84 11441 := by
  have hF : mp_F E X (RL, code, 4, (2048, 600000, 7302250, 84000), ret, false) := hL.1
  show mp_W E X 4 2040 [(3, .int 0), (2, .ref q2), (1, .ref q1), (0, .ref b)] [] (mp_w0 E q1 q2 bb mm vs ln wd) 84 11441
  refine mp_run hF mp_tabL_ok [mp_i (.aload_n 1), mp_i (.aload_n 0), mp_i (.iload_n 3), mp_c (.iconst 1) 1, mp_i .iadd] (by decide +kernel) ?_
  intro z1 h2
  obtain rfl : z1 = 1 := h2.trans (by decide)
  show mp_W E X 4 2045 [(3, .int 0), (2, .ref q2), (1, .ref q1), (0, .ref b)] [.int 1, .ref b, .ref q1] (mp_w0 E q1 q2 bb mm vs ln wd) 84 11441
  refine mp_lsld hL 1 (by decide) (by decide) (by decide) (by decide +kernel) ?_
  show mp_W E X 4 2046 [(3, .int 0), (2, .ref q2), (1, .ref q1), (0, .ref b)] [.int (xs 1), .ref q1] (mp_w0 E q1 q2 bb mm vs ln wd) 84 11441
  refine mp_run hF mp_tabL_ok [mp_i (.aload_n 0), mp_i (.iload_n 3), mp_c (.iconst 2) 2, mp_i .iadd] (by decide +kernel) ?_
  intro z3 h4
  obtain rfl : z3 = 2 := h4.trans (by decide)
  show mp_W E X 4 2050 [(3, .int 0), (2, .ref q2), (1, .ref q1), (0, .ref b)] [.int 2, .ref b, .int (xs 1), .ref q1] (mp_w0 E q1 q2 bb mm vs ln wd) 84 11441
  refine mp_lsld hL 2 (by decide) (by decide) (by decide) (by decide +kernel) ?_
  show mp_W E X 4 2051 [(3, .int 0), (2, .ref q2), (1, .ref q1), (0, .ref b)] [.int (xs 2), .int (xs 1), .ref q1] (mp_w0 E q1 q2 bb mm vs ln wd) 84 11441
  refine mp_run hF mp_tabL_ok [mp_i (.aload_n 0), mp_i (.iload_n 3), mp_c (.iconst 3) 3, mp_i .iadd] (by decide +kernel) ?_
  intro z5 h6
  obtain rfl : z5 = 3 := h6.trans (by decide)
  show mp_W E X 4 2055 [(3, .int 0), (2, .ref q2), (1, .ref q1), (0, .ref b)] [.int 3, .ref b, .int (xs 2), .int (xs 1), .ref q1] (mp_w0 E q1 q2 bb mm vs ln wd) 84 11441
  refine mp_lsld hL 3 (by decide) (by decide) (by decide) (by decide +kernel) ?_
  show mp_W E X 4 2056 [(3, .int 0), (2, .ref q2), (1, .ref q1), (0, .ref b)] [.int (xs 3), .int (xs 2), .int (xs 1), .ref q1] (mp_w0 E q1 q2 bb mm vs ln wd) 84 11441
  refine mp_callV hF (As := [.int (xs 1), .int (xs 2), .int (xs 3)]) (rest := []) (wr := [(q2, .inr (10, [.int 0, .ref (mm 1), .ref (mm 2), .ref (mm 3), .ref (mm 4), .ref (mm 5), .int 0, .int 0, .int 0, .int 0, .int 0, .long 0, .int 0, .int 0, .int 0, .int (-1), .ref (mm 6), .ref (mm 7), .ref (mm 8), .ref (mm 9), .ref (mm 10), .ref (mm 11), .ref (mm 12), .ref (mm 13), .int 0, .ref (mm 14), .ref (mm 15), .ref (mm 16), .ref (mm 17), .int 0, .int 0, .int 0, .ref (mm 18), .ref (mm 19), .int 0, .int 0, .ref (mm 20), .ref (mm 21), .ref (mm 22), .int 0, .int 0, .int 0, .int 0, .ref (mm 23), .ref (mm 24), .ref (mm 25), .int 0])), ((mm 1), .inl (E.2.2 0, 4, .inl wd)), ((mm 2), .inl (E.2.2 0, 4, .inl (fun _ => 0))), ((mm 3), .inl (E.2.2 2, 240, .inr (.inl (fun _ => 0))))]) (aX9_row_192 E q1 (bb 54) (bb 55) (bb 56) (bb 57) (bb 1) (bb 16) (bb 36) (bb 37) (bb 40) (bb 46) (bb 49) (bb 52) ln (xs 1) (xs 2) (xs 3) hln) mp_lkL_248 0 rfl [0, 54, 55, 56, 57] [58, 59, 60, 61] rfl rfl rfl rfl rfl ⟨(Nat.le_of_ble_eq_true rfl), (Nat.le_of_ble_eq_true rfl), (Nat.le_of_ble_eq_true rfl), (Nat.le_of_ble_eq_true rfl)⟩ (Nat.le_of_ble_eq_true rfl) (by decide +kernel) (fun v7 w8 h9 => ?_)
  rcases h9 with ⟨rfl, c10, rfl⟩ | ⟨rfl, c11, c12, rfl⟩ | ⟨rfl, c13, c14, c15, rfl⟩ | ⟨rfl, c16, c17, c18, c19, rfl⟩ | ⟨rfl, c20, c21, c22, c23, c24, rfl⟩ | ⟨rfl, c25, c26, c27, c28, c29, c30, rfl⟩ | ⟨rfl, c31, c32, c33, c34, c35, c36, rfl⟩
  · skip
    have c10 : (xs 1).toInt < 0 := c10
    show mp_W E X 4 2059 [(3, .int 0), (2, .ref q2), (1, .ref q1), (0, .ref b)] [.int (-2)] [(q2, .inr (10, [.int 0, .ref (mm 1), .ref (mm 2), .ref (mm 3), .ref (mm 4), .ref (mm 5), .int 0, .int 0, .int 0, .int 0, .int 0, .long 0, .int 0, .int 0, .int 0, .int (-1), .ref (mm 6), .ref (mm 7), .ref (mm 8), .ref (mm 9), .ref (mm 10), .ref (mm 11), .ref (mm 12), .ref (mm 13), .int 0, .ref (mm 14), .ref (mm 15), .ref (mm 16), .ref (mm 17), .int 0, .int 0, .int 0, .ref (mm 18), .ref (mm 19), .int 0, .int 0, .ref (mm 20), .ref (mm 21), .ref (mm 22), .int 0, .int 0, .int 0, .int 0, .ref (mm 23), .ref (mm 24), .ref (mm 25), .int 0])), ((mm 1), .inl (E.2.2 0, 4, .inl wd)), ((mm 2), .inl (E.2.2 0, 4, .inl (fun _ => 0))), ((mm 3), .inl (E.2.2 2, 240, .inr (.inl (fun _ => 0))))] 84 11441
    refine mp_run hF mp_tabL_ok [mp_i (.aload_n 2), mp_i (.aload_n 0), mp_i (.iload_n 3), mp_c (.iconst 1) 1, mp_i .iadd] (by decide +kernel) ?_
    intro z37 h38
    obtain rfl : z37 = 1 := h38.trans (by decide)
    show mp_W E X 4 2064 [(3, .int 0), (2, .ref q2), (1, .ref q1), (0, .ref b)] [.int 1, .ref b, .ref q2, .int (-2)] [(q2, .inr (10, [.int 0, .ref (mm 1), .ref (mm 2), .ref (mm 3), .ref (mm 4), .ref (mm 5), .int 0, .int 0, .int 0, .int 0, .int 0, .long 0, .int 0, .int 0, .int 0, .int (-1), .ref (mm 6), .ref (mm 7), .ref (mm 8), .ref (mm 9), .ref (mm 10), .ref (mm 11), .ref (mm 12), .ref (mm 13), .int 0, .ref (mm 14), .ref (mm 15), .ref (mm 16), .ref (mm 17), .int 0, .int 0, .int 0, .ref (mm 18), .ref (mm 19), .int 0, .int 0, .ref (mm 20), .ref (mm 21), .ref (mm 22), .int 0, .int 0, .int 0, .int 0, .ref (mm 23), .ref (mm 24), .ref (mm 25), .int 0])), ((mm 1), .inl (E.2.2 0, 4, .inl wd)), ((mm 2), .inl (E.2.2 0, 4, .inl (fun _ => 0))), ((mm 3), .inl (E.2.2 2, 240, .inr (.inl (fun _ => 0))))] 84 11441
    refine mp_lsld hL 1 (by decide) (by decide) (by decide) (by decide +kernel) ?_
    show mp_W E X 4 2065 [(3, .int 0), (2, .ref q2), (1, .ref q1), (0, .ref b)] [.int (xs 1), .ref q2, .int (-2)] [(q2, .inr (10, [.int 0, .ref (mm 1), .ref (mm 2), .ref (mm 3), .ref (mm 4), .ref (mm 5), .int 0, .int 0, .int 0, .int 0, .int 0, .long 0, .int 0, .int 0, .int 0, .int (-1), .ref (mm 6), .ref (mm 7), .ref (mm 8), .ref (mm 9), .ref (mm 10), .ref (mm 11), .ref (mm 12), .ref (mm 13), .int 0, .ref (mm 14), .ref (mm 15), .ref (mm 16), .ref (mm 17), .int 0, .int 0, .int 0, .ref (mm 18), .ref (mm 19), .int 0, .int 0, .ref (mm 20), .ref (mm 21), .ref (mm 22), .int 0, .int 0, .int 0, .int 0, .ref (mm 23), .ref (mm 24), .ref (mm 25), .int 0])), ((mm 1), .inl (E.2.2 0, 4, .inl wd)), ((mm 2), .inl (E.2.2 0, 4, .inl (fun _ => 0))), ((mm 3), .inl (E.2.2 2, 240, .inr (.inl (fun _ => 0))))] 84 11441
    refine mp_run hF mp_tabL_ok [mp_i (.aload_n 0), mp_i (.iload_n 3), mp_c (.iconst 2) 2, mp_i .iadd] (by decide +kernel) ?_
    intro z39 h40
    obtain rfl : z39 = 2 := h40.trans (by decide)
    show mp_W E X 4 2069 [(3, .int 0), (2, .ref q2), (1, .ref q1), (0, .ref b)] [.int 2, .ref b, .int (xs 1), .ref q2, .int (-2)] [(q2, .inr (10, [.int 0, .ref (mm 1), .ref (mm 2), .ref (mm 3), .ref (mm 4), .ref (mm 5), .int 0, .int 0, .int 0, .int 0, .int 0, .long 0, .int 0, .int 0, .int 0, .int (-1), .ref (mm 6), .ref (mm 7), .ref (mm 8), .ref (mm 9), .ref (mm 10), .ref (mm 11), .ref (mm 12), .ref (mm 13), .int 0, .ref (mm 14), .ref (mm 15), .ref (mm 16), .ref (mm 17), .int 0, .int 0, .int 0, .ref (mm 18), .ref (mm 19), .int 0, .int 0, .ref (mm 20), .ref (mm 21), .ref (mm 22), .int 0, .int 0, .int 0, .int 0, .ref (mm 23), .ref (mm 24), .ref (mm 25), .int 0])), ((mm 1), .inl (E.2.2 0, 4, .inl wd)), ((mm 2), .inl (E.2.2 0, 4, .inl (fun _ => 0))), ((mm 3), .inl (E.2.2 2, 240, .inr (.inl (fun _ => 0))))] 84 11441
    refine mp_lsld hL 2 (by decide) (by decide) (by decide) (by decide +kernel) ?_
    show mp_W E X 4 2070 [(3, .int 0), (2, .ref q2), (1, .ref q1), (0, .ref b)] [.int (xs 2), .int (xs 1), .ref q2, .int (-2)] [(q2, .inr (10, [.int 0, .ref (mm 1), .ref (mm 2), .ref (mm 3), .ref (mm 4), .ref (mm 5), .int 0, .int 0, .int 0, .int 0, .int 0, .long 0, .int 0, .int 0, .int 0, .int (-1), .ref (mm 6), .ref (mm 7), .ref (mm 8), .ref (mm 9), .ref (mm 10), .ref (mm 11), .ref (mm 12), .ref (mm 13), .int 0, .ref (mm 14), .ref (mm 15), .ref (mm 16), .ref (mm 17), .int 0, .int 0, .int 0, .ref (mm 18), .ref (mm 19), .int 0, .int 0, .ref (mm 20), .ref (mm 21), .ref (mm 22), .int 0, .int 0, .int 0, .int 0, .ref (mm 23), .ref (mm 24), .ref (mm 25), .int 0])), ((mm 1), .inl (E.2.2 0, 4, .inl wd)), ((mm 2), .inl (E.2.2 0, 4, .inl (fun _ => 0))), ((mm 3), .inl (E.2.2 2, 240, .inr (.inl (fun _ => 0))))] 84 11441
    refine mp_run hF mp_tabL_ok [mp_i (.aload_n 0), mp_i (.iload_n 3), mp_c (.iconst 3) 3, mp_i .iadd] (by decide +kernel) ?_
    intro z41 h42
    obtain rfl : z41 = 3 := h42.trans (by decide)
    show mp_W E X 4 2074 [(3, .int 0), (2, .ref q2), (1, .ref q1), (0, .ref b)] [.int 3, .ref b, .int (xs 2), .int (xs 1), .ref q2, .int (-2)] [(q2, .inr (10, [.int 0, .ref (mm 1), .ref (mm 2), .ref (mm 3), .ref (mm 4), .ref (mm 5), .int 0, .int 0, .int 0, .int 0, .int 0, .long 0, .int 0, .int 0, .int 0, .int (-1), .ref (mm 6), .ref (mm 7), .ref (mm 8), .ref (mm 9), .ref (mm 10), .ref (mm 11), .ref (mm 12), .ref (mm 13), .int 0, .ref (mm 14), .ref (mm 15), .ref (mm 16), .ref (mm 17), .int 0, .int 0, .int 0, .ref (mm 18), .ref (mm 19), .int 0, .int 0, .ref (mm 20), .ref (mm 21), .ref (mm 22), .int 0, .int 0, .int 0, .int 0, .ref (mm 23), .ref (mm 24), .ref (mm 25), .int 0])), ((mm 1), .inl (E.2.2 0, 4, .inl wd)), ((mm 2), .inl (E.2.2 0, 4, .inl (fun _ => 0))), ((mm 3), .inl (E.2.2 2, 240, .inr (.inl (fun _ => 0))))] 84 11441
    refine mp_lsld hL 3 (by decide) (by decide) (by decide) (by decide +kernel) ?_
    show mp_W E X 4 2075 [(3, .int 0), (2, .ref q2), (1, .ref q1), (0, .ref b)] [.int (xs 3), .int (xs 2), .int (xs 1), .ref q2, .int (-2)] [(q2, .inr (10, [.int 0, .ref (mm 1), .ref (mm 2), .ref (mm 3), .ref (mm 4), .ref (mm 5), .int 0, .int 0, .int 0, .int 0, .int 0, .long 0, .int 0, .int 0, .int 0, .int (-1), .ref (mm 6), .ref (mm 7), .ref (mm 8), .ref (mm 9), .ref (mm 10), .ref (mm 11), .ref (mm 12), .ref (mm 13), .int 0, .ref (mm 14), .ref (mm 15), .ref (mm 16), .ref (mm 17), .int 0, .int 0, .int 0, .ref (mm 18), .ref (mm 19), .int 0, .int 0, .ref (mm 20), .ref (mm 21), .ref (mm 22), .int 0, .int 0, .int 0, .int 0, .ref (mm 23), .ref (mm 24), .ref (mm 25), .int 0])), ((mm 1), .inl (E.2.2 0, 4, .inl wd)), ((mm 2), .inl (E.2.2 0, 4, .inl (fun _ => 0))), ((mm 3), .inl (E.2.2 2, 240, .inr (.inl (fun _ => 0))))] 84 11441
    refine mp_callV hF (As := [.int (xs 1), .int (xs 2), .int (xs 3)]) (rest := [.int (-2)]) (wr := []) (aX10_row_193 E q2 (mm 1) (mm 2) (mm 3) (mm 4) (mm 5) (mm 6) (mm 7) (mm 8) (mm 9) (mm 10) (mm 11) (mm 12) (mm 13) (mm 14) (mm 15) (mm 16) (mm 17) (mm 18) (mm 19) (mm 20) (mm 21) (mm 22) (mm 23) (mm 24) (mm 25) wd (xs 1) (xs 2) (xs 3) hwd) mp_lkL_251 0 rfl [0, 1, 2, 3] [] rfl rfl rfl rfl rfl ⟨(Nat.le_of_ble_eq_true rfl), (Nat.le_of_ble_eq_true rfl), (Nat.le_of_ble_eq_true rfl), (Nat.le_of_ble_eq_true rfl)⟩ (Nat.le_of_ble_eq_true rfl) (by decide +kernel) (fun v43 w44 h45 => ?_)
    rcases h45 with ⟨rfl, c46, rfl⟩ | ⟨rfl, c47, c48, rfl⟩ | ⟨rfl, c49, c50, c51, rfl⟩ | ⟨rfl, c52, c53, c54, c55, rfl⟩ | ⟨rfl, c56, c57, c58, c59, c60, rfl⟩ | ⟨rfl, c61, c62, c63, c64, c65, c66, rfl⟩ | ⟨rfl, c67, c68, c69, c70, c71, c72, rfl⟩
    · skip
      have c46 : (xs 1).toInt < 0 := c46
      show mp_W E X 4 2078 [(3, .int 0), (2, .ref q2), (1, .ref q1), (0, .ref b)] [.int (-2), .int (-2)] [] 84 11441
      refine mp_run hF mp_tabL_ok [mp_h (.if_icmp .eq 141) [2219]] (by decide +kernel) ?_
      refine And.intro (fun _ => ?_) (fun c73 => absurd c73 (by decide))
      show mp_W E X 4 2219 [(3, .int 0), (2, .ref q2), (1, .ref q1), (0, .ref b)] [] [] 84 11441
      exact mp_sub [3, 0] rfl [] rfl rfl (mp_lw_next hL (Nat.le_of_ble_eq_true rfl) (Nat.le_of_ble_eq_true rfl))
    · skip
      have c47 : 0 ≤ (xs 1).toInt := c47
      have c48 : 3 < (xs 1).toInt := c48
      exfalso; omega
    · skip
      have c49 : 0 ≤ (xs 1).toInt := c49
      have c50 : (xs 1).toInt ≤ 3 := c50
      have c51 : (xs 2).toInt < 0 := c51
      exfalso; omega
    · skip
      have c52 : 0 ≤ (xs 1).toInt := c52
      have c53 : (xs 1).toInt ≤ 3 := c53
      have c54 : 0 ≤ (xs 2).toInt := c54
      have c55 : 3 < (xs 2).toInt := c55
      exfalso; omega
    · skip
      have c56 : 0 ≤ (xs 1).toInt := c56
      have c57 : (xs 1).toInt ≤ 3 := c57
      have c58 : 0 ≤ (xs 2).toInt := c58
      have c59 : (xs 2).toInt ≤ 3 := c59
      have c60 : 60 < (xs 3).toInt := c60
      exfalso; omega
    · skip
      have c61 : 0 ≤ (xs 1).toInt := c61
      have c62 : (xs 1).toInt ≤ 3 := c62
      have c63 : 0 ≤ (xs 2).toInt := c63
      have c64 : (xs 2).toInt ≤ 3 := c64
      have c65 : (xs 3).toInt ≤ 60 := c65
      have c66 : 0 ≤ (xs 3).toInt := c66
      exfalso; omega
    · skip
      have c67 : 0 ≤ (xs 1).toInt := c67
      have c68 : (xs 1).toInt ≤ 3 := c68
      have c69 : 0 ≤ (xs 2).toInt := c69
      have c70 : (xs 2).toInt ≤ 3 := c70
      have c71 : (xs 3).toInt ≤ 60 := c71
      have c72 : (xs 3).toInt < 0 := c72
      exfalso; omega
  · skip
    have c11 : 0 ≤ (xs 1).toInt := c11
    have c12 : 4 ≤ (xs 1).toInt := c12
    show mp_W E X 4 2059 [(3, .int 0), (2, .ref q2), (1, .ref q1), (0, .ref b)] [.int (-2)] [(q2, .inr (10, [.int 0, .ref (mm 1), .ref (mm 2), .ref (mm 3), .ref (mm 4), .ref (mm 5), .int 0, .int 0, .int 0, .int 0, .int 0, .long 0, .int 0, .int 0, .int 0, .int (-1), .ref (mm 6), .ref (mm 7), .ref (mm 8), .ref (mm 9), .ref (mm 10), .ref (mm 11), .ref (mm 12), .ref (mm 13), .int 0, .ref (mm 14), .ref (mm 15), .ref (mm 16), .ref (mm 17), .int 0, .int 0, .int 0, .ref (mm 18), .ref (mm 19), .int 0, .int 0, .ref (mm 20), .ref (mm 21), .ref (mm 22), .int 0, .int 0, .int 0, .int 0, .ref (mm 23), .ref (mm 24), .ref (mm 25), .int 0])), ((mm 1), .inl (E.2.2 0, 4, .inl wd)), ((mm 2), .inl (E.2.2 0, 4, .inl (fun _ => 0))), ((mm 3), .inl (E.2.2 2, 240, .inr (.inl (fun _ => 0))))] 84 11441
    refine mp_run hF mp_tabL_ok [mp_i (.aload_n 2), mp_i (.aload_n 0), mp_i (.iload_n 3), mp_c (.iconst 1) 1, mp_i .iadd] (by decide +kernel) ?_
    intro z74 h75
    obtain rfl : z74 = 1 := h75.trans (by decide)
    show mp_W E X 4 2064 [(3, .int 0), (2, .ref q2), (1, .ref q1), (0, .ref b)] [.int 1, .ref b, .ref q2, .int (-2)] [(q2, .inr (10, [.int 0, .ref (mm 1), .ref (mm 2), .ref (mm 3), .ref (mm 4), .ref (mm 5), .int 0, .int 0, .int 0, .int 0, .int 0, .long 0, .int 0, .int 0, .int 0, .int (-1), .ref (mm 6), .ref (mm 7), .ref (mm 8), .ref (mm 9), .ref (mm 10), .ref (mm 11), .ref (mm 12), .ref (mm 13), .int 0, .ref (mm 14), .ref (mm 15), .ref (mm 16), .ref (mm 17), .int 0, .int 0, .int 0, .ref (mm 18), .ref (mm 19), .int 0, .int 0, .ref (mm 20), .ref (mm 21), .ref (mm 22), .int 0, .int 0, .int 0, .int 0, .ref (mm 23), .ref (mm 24), .ref (mm 25), .int 0])), ((mm 1), .inl (E.2.2 0, 4, .inl wd)), ((mm 2), .inl (E.2.2 0, 4, .inl (fun _ => 0))), ((mm 3), .inl (E.2.2 2, 240, .inr (.inl (fun _ => 0))))] 84 11441
    refine mp_lsld hL 1 (by decide) (by decide) (by decide) (by decide +kernel) ?_
    show mp_W E X 4 2065 [(3, .int 0), (2, .ref q2), (1, .ref q1), (0, .ref b)] [.int (xs 1), .ref q2, .int (-2)] [(q2, .inr (10, [.int 0, .ref (mm 1), .ref (mm 2), .ref (mm 3), .ref (mm 4), .ref (mm 5), .int 0, .int 0, .int 0, .int 0, .int 0, .long 0, .int 0, .int 0, .int 0, .int (-1), .ref (mm 6), .ref (mm 7), .ref (mm 8), .ref (mm 9), .ref (mm 10), .ref (mm 11), .ref (mm 12), .ref (mm 13), .int 0, .ref (mm 14), .ref (mm 15), .ref (mm 16), .ref (mm 17), .int 0, .int 0, .int 0, .ref (mm 18), .ref (mm 19), .int 0, .int 0, .ref (mm 20), .ref (mm 21), .ref (mm 22), .int 0, .int 0, .int 0, .int 0, .ref (mm 23), .ref (mm 24), .ref (mm 25), .int 0])), ((mm 1), .inl (E.2.2 0, 4, .inl wd)), ((mm 2), .inl (E.2.2 0, 4, .inl (fun _ => 0))), ((mm 3), .inl (E.2.2 2, 240, .inr (.inl (fun _ => 0))))] 84 11441
    refine mp_run hF mp_tabL_ok [mp_i (.aload_n 0), mp_i (.iload_n 3), mp_c (.iconst 2) 2, mp_i .iadd] (by decide +kernel) ?_
    intro z76 h77
    obtain rfl : z76 = 2 := h77.trans (by decide)
    show mp_W E X 4 2069 [(3, .int 0), (2, .ref q2), (1, .ref q1), (0, .ref b)] [.int 2, .ref b, .int (xs 1), .ref q2, .int (-2)] [(q2, .inr (10, [.int 0, .ref (mm 1), .ref (mm 2), .ref (mm 3), .ref (mm 4), .ref (mm 5), .int 0, .int 0, .int 0, .int 0, .int 0, .long 0, .int 0, .int 0, .int 0, .int (-1), .ref (mm 6), .ref (mm 7), .ref (mm 8), .ref (mm 9), .ref (mm 10), .ref (mm 11), .ref (mm 12), .ref (mm 13), .int 0, .ref (mm 14), .ref (mm 15), .ref (mm 16), .ref (mm 17), .int 0, .int 0, .int 0, .ref (mm 18), .ref (mm 19), .int 0, .int 0, .ref (mm 20), .ref (mm 21), .ref (mm 22), .int 0, .int 0, .int 0, .int 0, .ref (mm 23), .ref (mm 24), .ref (mm 25), .int 0])), ((mm 1), .inl (E.2.2 0, 4, .inl wd)), ((mm 2), .inl (E.2.2 0, 4, .inl (fun _ => 0))), ((mm 3), .inl (E.2.2 2, 240, .inr (.inl (fun _ => 0))))] 84 11441
    refine mp_lsld hL 2 (by decide) (by decide) (by decide) (by decide +kernel) ?_
    show mp_W E X 4 2070 [(3, .int 0), (2, .ref q2), (1, .ref q1), (0, .ref b)] [.int (xs 2), .int (xs 1), .ref q2, .int (-2)] [(q2, .inr (10, [.int 0, .ref (mm 1), .ref (mm 2), .ref (mm 3), .ref (mm 4), .ref (mm 5), .int 0, .int 0, .int 0, .int 0, .int 0, .long 0, .int 0, .int 0, .int 0, .int (-1), .ref (mm 6), .ref (mm 7), .ref (mm 8), .ref (mm 9), .ref (mm 10), .ref (mm 11), .ref (mm 12), .ref (mm 13), .int 0, .ref (mm 14), .ref (mm 15), .ref (mm 16), .ref (mm 17), .int 0, .int 0, .int 0, .ref (mm 18), .ref (mm 19), .int 0, .int 0, .ref (mm 20), .ref (mm 21), .ref (mm 22), .int 0, .int 0, .int 0, .int 0, .ref (mm 23), .ref (mm 24), .ref (mm 25), .int 0])), ((mm 1), .inl (E.2.2 0, 4, .inl wd)), ((mm 2), .inl (E.2.2 0, 4, .inl (fun _ => 0))), ((mm 3), .inl (E.2.2 2, 240, .inr (.inl (fun _ => 0))))] 84 11441
    refine mp_run hF mp_tabL_ok [mp_i (.aload_n 0), mp_i (.iload_n 3), mp_c (.iconst 3) 3, mp_i .iadd] (by decide +kernel) ?_
    intro z78 h79
    obtain rfl : z78 = 3 := h79.trans (by decide)
    show mp_W E X 4 2074 [(3, .int 0), (2, .ref q2), (1, .ref q1), (0, .ref b)] [.int 3, .ref b, .int (xs 2), .int (xs 1), .ref q2, .int (-2)] [(q2, .inr (10, [.int 0, .ref (mm 1), .ref (mm 2), .ref (mm 3), .ref (mm 4), .ref (mm 5), .int 0, .int 0, .int 0, .int 0, .int 0, .long 0, .int 0, .int 0, .int 0, .int (-1), .ref (mm 6), .ref (mm 7), .ref (mm 8), .ref (mm 9), .ref (mm 10), .ref (mm 11), .ref (mm 12), .ref (mm 13), .int 0, .ref (mm 14), .ref (mm 15), .ref (mm 16), .ref (mm 17), .int 0, .int 0, .int 0, .ref (mm 18), .ref (mm 19), .int 0, .int 0, .ref (mm 20), .ref (mm 21), .ref (mm 22), .int 0, .int 0, .int 0, .int 0, .ref (mm 23), .ref (mm 24), .ref (mm 25), .int 0])), ((mm 1), .inl (E.2.2 0, 4, .inl wd)), ((mm 2), .inl (E.2.2 0, 4, .inl (fun _ => 0))), ((mm 3), .inl (E.2.2 2, 240, .inr (.inl (fun _ => 0))))] 84 11441
    refine mp_lsld hL 3 (by decide) (by decide) (by decide) (by decide +kernel) ?_
    show mp_W E X 4 2075 [(3, .int 0), (2, .ref q2), (1, .ref q1), (0, .ref b)] [.int (xs 3), .int (xs 2), .int (xs 1), .ref q2, .int (-2)] [(q2, .inr (10, [.int 0, .ref (mm 1), .ref (mm 2), .ref (mm 3), .ref (mm 4), .ref (mm 5), .int 0, .int 0, .int 0, .int 0, .int 0, .long 0, .int 0, .int 0, .int 0, .int (-1), .ref (mm 6), .ref (mm 7), .ref (mm 8), .ref (mm 9), .ref (mm 10), .ref (mm 11), .ref (mm 12), .ref (mm 13), .int 0, .ref (mm 14), .ref (mm 15), .ref (mm 16), .ref (mm 17), .int 0, .int 0, .int 0, .ref (mm 18), .ref (mm 19), .int 0, .int 0, .ref (mm 20), .ref (mm 21), .ref (mm 22), .int 0, .int 0, .int 0, .int 0, .ref (mm 23), .ref (mm 24), .ref (mm 25), .int 0])), ((mm 1), .inl (E.2.2 0, 4, .inl wd)), ((mm 2), .inl (E.2.2 0, 4, .inl (fun _ => 0))), ((mm 3), .inl (E.2.2 2, 240, .inr (.inl (fun _ => 0))))] 84 11441
    refine mp_callV hF (As := [.int (xs 1), .int (xs 2), .int (xs 3)]) (rest := [.int (-2)]) (wr := []) (aX10_row_193 E q2 (mm 1) (mm 2) (mm 3) (mm 4) (mm 5) (mm 6) (mm 7) (mm 8) (mm 9) (mm 10) (mm 11) (mm 12) (mm 13) (mm 14) (mm 15) (mm 16) (mm 17) (mm 18) (mm 19) (mm 20) (mm 21) (mm 22) (mm 23) (mm 24) (mm 25) wd (xs 1) (xs 2) (xs 3) hwd) mp_lkL_251 0 rfl [0, 1, 2, 3] [] rfl rfl rfl rfl rfl ⟨(Nat.le_of_ble_eq_true rfl), (Nat.le_of_ble_eq_true rfl), (Nat.le_of_ble_eq_true rfl), (Nat.le_of_ble_eq_true rfl)⟩ (Nat.le_of_ble_eq_true rfl) (by decide +kernel) (fun v80 w81 h82 => ?_)
    rcases h82 with ⟨rfl, c83, rfl⟩ | ⟨rfl, c84, c85, rfl⟩ | ⟨rfl, c86, c87, c88, rfl⟩ | ⟨rfl, c89, c90, c91, c92, rfl⟩ | ⟨rfl, c93, c94, c95, c96, c97, rfl⟩ | ⟨rfl, c98, c99, c100, c101, c102, c103, rfl⟩ | ⟨rfl, c104, c105, c106, c107, c108, c109, rfl⟩
    · skip
      have c83 : (xs 1).toInt < 0 := c83
      exfalso; omega
    · skip
      have c84 : 0 ≤ (xs 1).toInt := c84
      have c85 : 3 < (xs 1).toInt := c85
      show mp_W E X 4 2078 [(3, .int 0), (2, .ref q2), (1, .ref q1), (0, .ref b)] [.int (-2), .int (-2)] [] 84 11441
      refine mp_run hF mp_tabL_ok [mp_h (.if_icmp .eq 141) [2219]] (by decide +kernel) ?_
      refine And.intro (fun _ => ?_) (fun c110 => absurd c110 (by decide))
      show mp_W E X 4 2219 [(3, .int 0), (2, .ref q2), (1, .ref q1), (0, .ref b)] [] [] 84 11441
      exact mp_sub [3, 0] rfl [] rfl rfl (mp_lw_next hL (Nat.le_of_ble_eq_true rfl) (Nat.le_of_ble_eq_true rfl))
    · skip
      have c86 : 0 ≤ (xs 1).toInt := c86
      have c87 : (xs 1).toInt ≤ 3 := c87
      have c88 : (xs 2).toInt < 0 := c88
      exfalso; omega
    · skip
      have c89 : 0 ≤ (xs 1).toInt := c89
      have c90 : (xs 1).toInt ≤ 3 := c90
      have c91 : 0 ≤ (xs 2).toInt := c91
      have c92 : 3 < (xs 2).toInt := c92
      exfalso; omega
    · skip
      have c93 : 0 ≤ (xs 1).toInt := c93
      have c94 : (xs 1).toInt ≤ 3 := c94
      have c95 : 0 ≤ (xs 2).toInt := c95
      have c96 : (xs 2).toInt ≤ 3 := c96
      have c97 : 60 < (xs 3).toInt := c97
      exfalso; omega
    · skip
      have c98 : 0 ≤ (xs 1).toInt := c98
      have c99 : (xs 1).toInt ≤ 3 := c99
      have c100 : 0 ≤ (xs 2).toInt := c100
      have c101 : (xs 2).toInt ≤ 3 := c101
      have c102 : (xs 3).toInt ≤ 60 := c102
      have c103 : 0 ≤ (xs 3).toInt := c103
      exfalso; omega
    · skip
      have c104 : 0 ≤ (xs 1).toInt := c104
      have c105 : (xs 1).toInt ≤ 3 := c105
      have c106 : 0 ≤ (xs 2).toInt := c106
      have c107 : (xs 2).toInt ≤ 3 := c107
      have c108 : (xs 3).toInt ≤ 60 := c108
      have c109 : (xs 3).toInt < 0 := c109
      exfalso; omega
  · skip
    have c13 : 0 ≤ (xs 1).toInt := c13
    have c14 : (xs 1).toInt < 4 := c14
    have c15 : (xs 2).toInt < 0 := c15
    show mp_W E X 4 2059 [(3, .int 0), (2, .ref q2), (1, .ref q1), (0, .ref b)] [.int (-2)] [(q2, .inr (10, [.int 0, .ref (mm 1), .ref (mm 2), .ref (mm 3), .ref (mm 4), .ref (mm 5), .int 0, .int 0, .int 0, .int 0, .int 0, .long 0, .int 0, .int 0, .int 0, .int (-1), .ref (mm 6), .ref (mm 7), .ref (mm 8), .ref (mm 9), .ref (mm 10), .ref (mm 11), .ref (mm 12), .ref (mm 13), .int 0, .ref (mm 14), .ref (mm 15), .ref (mm 16), .ref (mm 17), .int 0, .int 0, .int 0, .ref (mm 18), .ref (mm 19), .int 0, .int 0, .ref (mm 20), .ref (mm 21), .ref (mm 22), .int 0, .int 0, .int 0, .int 0, .ref (mm 23), .ref (mm 24), .ref (mm 25), .int 0])), ((mm 1), .inl (E.2.2 0, 4, .inl wd)), ((mm 2), .inl (E.2.2 0, 4, .inl (fun _ => 0))), ((mm 3), .inl (E.2.2 2, 240, .inr (.inl (fun _ => 0))))] 84 11441
    refine mp_run hF mp_tabL_ok [mp_i (.aload_n 2), mp_i (.aload_n 0), mp_i (.iload_n 3), mp_c (.iconst 1) 1, mp_i .iadd] (by decide +kernel) ?_
    intro z111 h112
    obtain rfl : z111 = 1 := h112.trans (by decide)
    show mp_W E X 4 2064 [(3, .int 0), (2, .ref q2), (1, .ref q1), (0, .ref b)] [.int 1, .ref b, .ref q2, .int (-2)] [(q2, .inr (10, [.int 0, .ref (mm 1), .ref (mm 2), .ref (mm 3), .ref (mm 4), .ref (mm 5), .int 0, .int 0, .int 0, .int 0, .int 0, .long 0, .int 0, .int 0, .int 0, .int (-1), .ref (mm 6), .ref (mm 7), .ref (mm 8), .ref (mm 9), .ref (mm 10), .ref (mm 11), .ref (mm 12), .ref (mm 13), .int 0, .ref (mm 14), .ref (mm 15), .ref (mm 16), .ref (mm 17), .int 0, .int 0, .int 0, .ref (mm 18), .ref (mm 19), .int 0, .int 0, .ref (mm 20), .ref (mm 21), .ref (mm 22), .int 0, .int 0, .int 0, .int 0, .ref (mm 23), .ref (mm 24), .ref (mm 25), .int 0])), ((mm 1), .inl (E.2.2 0, 4, .inl wd)), ((mm 2), .inl (E.2.2 0, 4, .inl (fun _ => 0))), ((mm 3), .inl (E.2.2 2, 240, .inr (.inl (fun _ => 0))))] 84 11441
    refine mp_lsld hL 1 (by decide) (by decide) (by decide) (by decide +kernel) ?_
    show mp_W E X 4 2065 [(3, .int 0), (2, .ref q2), (1, .ref q1), (0, .ref b)] [.int (xs 1), .ref q2, .int (-2)] [(q2, .inr (10, [.int 0, .ref (mm 1), .ref (mm 2), .ref (mm 3), .ref (mm 4), .ref (mm 5), .int 0, .int 0, .int 0, .int 0, .int 0, .long 0, .int 0, .int 0, .int 0, .int (-1), .ref (mm 6), .ref (mm 7), .ref (mm 8), .ref (mm 9), .ref (mm 10), .ref (mm 11), .ref (mm 12), .ref (mm 13), .int 0, .ref (mm 14), .ref (mm 15), .ref (mm 16), .ref (mm 17), .int 0, .int 0, .int 0, .ref (mm 18), .ref (mm 19), .int 0, .int 0, .ref (mm 20), .ref (mm 21), .ref (mm 22), .int 0, .int 0, .int 0, .int 0, .ref (mm 23), .ref (mm 24), .ref (mm 25), .int 0])), ((mm 1), .inl (E.2.2 0, 4, .inl wd)), ((mm 2), .inl (E.2.2 0, 4, .inl (fun _ => 0))), ((mm 3), .inl (E.2.2 2, 240, .inr (.inl (fun _ => 0))))] 84 11441
    refine mp_run hF mp_tabL_ok [mp_i (.aload_n 0), mp_i (.iload_n 3), mp_c (.iconst 2) 2, mp_i .iadd] (by decide +kernel) ?_
    intro z113 h114
    obtain rfl : z113 = 2 := h114.trans (by decide)
    show mp_W E X 4 2069 [(3, .int 0), (2, .ref q2), (1, .ref q1), (0, .ref b)] [.int 2, .ref b, .int (xs 1), .ref q2, .int (-2)] [(q2, .inr (10, [.int 0, .ref (mm 1), .ref (mm 2), .ref (mm 3), .ref (mm 4), .ref (mm 5), .int 0, .int 0, .int 0, .int 0, .int 0, .long 0, .int 0, .int 0, .int 0, .int (-1), .ref (mm 6), .ref (mm 7), .ref (mm 8), .ref (mm 9), .ref (mm 10), .ref (mm 11), .ref (mm 12), .ref (mm 13), .int 0, .ref (mm 14), .ref (mm 15), .ref (mm 16), .ref (mm 17), .int 0, .int 0, .int 0, .ref (mm 18), .ref (mm 19), .int 0, .int 0, .ref (mm 20), .ref (mm 21), .ref (mm 22), .int 0, .int 0, .int 0, .int 0, .ref (mm 23), .ref (mm 24), .ref (mm 25), .int 0])), ((mm 1), .inl (E.2.2 0, 4, .inl wd)), ((mm 2), .inl (E.2.2 0, 4, .inl (fun _ => 0))), ((mm 3), .inl (E.2.2 2, 240, .inr (.inl (fun _ => 0))))] 84 11441
    refine mp_lsld hL 2 (by decide) (by decide) (by decide) (by decide +kernel) ?_
    show mp_W E X 4 2070 [(3, .int 0), (2, .ref q2), (1, .ref q1), (0, .ref b)] [.int (xs 2), .int (xs 1), .ref q2, .int (-2)] [(q2, .inr (10, [.int 0, .ref (mm 1), .ref (mm 2), .ref (mm 3), .ref (mm 4), .ref (mm 5), .int 0, .int 0, .int 0, .int 0, .int 0, .long 0, .int 0, .int 0, .int 0, .int (-1), .ref (mm 6), .ref (mm 7), .ref (mm 8), .ref (mm 9), .ref (mm 10), .ref (mm 11), .ref (mm 12), .ref (mm 13), .int 0, .ref (mm 14), .ref (mm 15), .ref (mm 16), .ref (mm 17), .int 0, .int 0, .int 0, .ref (mm 18), .ref (mm 19), .int 0, .int 0, .ref (mm 20), .ref (mm 21), .ref (mm 22), .int 0, .int 0, .int 0, .int 0, .ref (mm 23), .ref (mm 24), .ref (mm 25), .int 0])), ((mm 1), .inl (E.2.2 0, 4, .inl wd)), ((mm 2), .inl (E.2.2 0, 4, .inl (fun _ => 0))), ((mm 3), .inl (E.2.2 2, 240, .inr (.inl (fun _ => 0))))] 84 11441
    refine mp_run hF mp_tabL_ok [mp_i (.aload_n 0), mp_i (.iload_n 3), mp_c (.iconst 3) 3, mp_i .iadd] (by decide +kernel) ?_
    intro z115 h116
    obtain rfl : z115 = 3 := h116.trans (by decide)
    show mp_W E X 4 2074 [(3, .int 0), (2, .ref q2), (1, .ref q1), (0, .ref b)] [.int 3, .ref b, .int (xs 2), .int (xs 1), .ref q2, .int (-2)] [(q2, .inr (10, [.int 0, .ref (mm 1), .ref (mm 2), .ref (mm 3), .ref (mm 4), .ref (mm 5), .int 0, .int 0, .int 0, .int 0, .int 0, .long 0, .int 0, .int 0, .int 0, .int (-1), .ref (mm 6), .ref (mm 7), .ref (mm 8), .ref (mm 9), .ref (mm 10), .ref (mm 11), .ref (mm 12), .ref (mm 13), .int 0, .ref (mm 14), .ref (mm 15), .ref (mm 16), .ref (mm 17), .int 0, .int 0, .int 0, .ref (mm 18), .ref (mm 19), .int 0, .int 0, .ref (mm 20), .ref (mm 21), .ref (mm 22), .int 0, .int 0, .int 0, .int 0, .ref (mm 23), .ref (mm 24), .ref (mm 25), .int 0])), ((mm 1), .inl (E.2.2 0, 4, .inl wd)), ((mm 2), .inl (E.2.2 0, 4, .inl (fun _ => 0))), ((mm 3), .inl (E.2.2 2, 240, .inr (.inl (fun _ => 0))))] 84 11441
    refine mp_lsld hL 3 (by decide) (by decide) (by decide) (by decide +kernel) ?_
    show mp_W E X 4 2075 [(3, .int 0), (2, .ref q2), (1, .ref q1), (0, .ref b)] [.int (xs 3), .int (xs 2), .int (xs 1), .ref q2, .int (-2)] [(q2, .inr (10, [.int 0, .ref (mm 1), .ref (mm 2), .ref (mm 3), .ref (mm 4), .ref (mm 5), .int 0, .int 0, .int 0, .int 0, .int 0, .long 0, .int 0, .int 0, .int 0, .int (-1), .ref (mm 6), .ref (mm 7), .ref (mm 8), .ref (mm 9), .ref (mm 10), .ref (mm 11), .ref (mm 12), .ref (mm 13), .int 0, .ref (mm 14), .ref (mm 15), .ref (mm 16), .ref (mm 17), .int 0, .int 0, .int 0, .ref (mm 18), .ref (mm 19), .int 0, .int 0, .ref (mm 20), .ref (mm 21), .ref (mm 22), .int 0, .int 0, .int 0, .int 0, .ref (mm 23), .ref (mm 24), .ref (mm 25), .int 0])), ((mm 1), .inl (E.2.2 0, 4, .inl wd)), ((mm 2), .inl (E.2.2 0, 4, .inl (fun _ => 0))), ((mm 3), .inl (E.2.2 2, 240, .inr (.inl (fun _ => 0))))] 84 11441
    refine mp_callV hF (As := [.int (xs 1), .int (xs 2), .int (xs 3)]) (rest := [.int (-2)]) (wr := []) (aX10_row_193 E q2 (mm 1) (mm 2) (mm 3) (mm 4) (mm 5) (mm 6) (mm 7) (mm 8) (mm 9) (mm 10) (mm 11) (mm 12) (mm 13) (mm 14) (mm 15) (mm 16) (mm 17) (mm 18) (mm 19) (mm 20) (mm 21) (mm 22) (mm 23) (mm 24) (mm 25) wd (xs 1) (xs 2) (xs 3) hwd) mp_lkL_251 0 rfl [0, 1, 2, 3] [] rfl rfl rfl rfl rfl ⟨(Nat.le_of_ble_eq_true rfl), (Nat.le_of_ble_eq_true rfl), (Nat.le_of_ble_eq_true rfl), (Nat.le_of_ble_eq_true rfl)⟩ (Nat.le_of_ble_eq_true rfl) (by decide +kernel) (fun v117 w118 h119 => ?_)
    rcases h119 with ⟨rfl, c120, rfl⟩ | ⟨rfl, c121, c122, rfl⟩ | ⟨rfl, c123, c124, c125, rfl⟩ | ⟨rfl, c126, c127, c128, c129, rfl⟩ | ⟨rfl, c130, c131, c132, c133, c134, rfl⟩ | ⟨rfl, c135, c136, c137, c138, c139, c140, rfl⟩ | ⟨rfl, c141, c142, c143, c144, c145, c146, rfl⟩
    · skip
      have c120 : (xs 1).toInt < 0 := c120
      exfalso; omega
    · skip
      have c121 : 0 ≤ (xs 1).toInt := c121
      have c122 : 3 < (xs 1).toInt := c122
      exfalso; omega
    · skip
      have c123 : 0 ≤ (xs 1).toInt := c123
      have c124 : (xs 1).toInt ≤ 3 := c124
      have c125 : (xs 2).toInt < 0 := c125
      show mp_W E X 4 2078 [(3, .int 0), (2, .ref q2), (1, .ref q1), (0, .ref b)] [.int (-2), .int (-2)] [] 84 11441
      refine mp_run hF mp_tabL_ok [mp_h (.if_icmp .eq 141) [2219]] (by decide +kernel) ?_
      refine And.intro (fun _ => ?_) (fun c147 => absurd c147 (by decide))
      show mp_W E X 4 2219 [(3, .int 0), (2, .ref q2), (1, .ref q1), (0, .ref b)] [] [] 84 11441
      exact mp_sub [3, 0] rfl [] rfl rfl (mp_lw_next hL (Nat.le_of_ble_eq_true rfl) (Nat.le_of_ble_eq_true rfl))
    · skip
      have c126 : 0 ≤ (xs 1).toInt := c126
      have c127 : (xs 1).toInt ≤ 3 := c127
      have c128 : 0 ≤ (xs 2).toInt := c128
      have c129 : 3 < (xs 2).toInt := c129
      exfalso; omega
    · skip
      have c130 : 0 ≤ (xs 1).toInt := c130
      have c131 : (xs 1).toInt ≤ 3 := c131
      have c132 : 0 ≤ (xs 2).toInt := c132
      have c133 : (xs 2).toInt ≤ 3 := c133
      have c134 : 60 < (xs 3).toInt := c134
      exfalso; omega
    · skip
      have c135 : 0 ≤ (xs 1).toInt := c135
      have c136 : (xs 1).toInt ≤ 3 := c136
      have c137 : 0 ≤ (xs 2).toInt := c137
      have c138 : (xs 2).toInt ≤ 3 := c138
      have c139 : (xs 3).toInt ≤ 60 := c139
      have c140 : 0 ≤ (xs 3).toInt := c140
      exfalso; omega
    · skip
      have c141 : 0 ≤ (xs 1).toInt := c141
      have c142 : (xs 1).toInt ≤ 3 := c142
      have c143 : 0 ≤ (xs 2).toInt := c143
      have c144 : (xs 2).toInt ≤ 3 := c144
      have c145 : (xs 3).toInt ≤ 60 := c145
      have c146 : (xs 3).toInt < 0 := c146
      exfalso; omega
  · skip
    have c16 : 0 ≤ (xs 1).toInt := c16
    have c17 : (xs 1).toInt < 4 := c17
    have c18 : 0 ≤ (xs 2).toInt := c18
    have c19 : 4 ≤ (xs 2).toInt := c19
    show mp_W E X 4 2059 [(3, .int 0), (2, .ref q2), (1, .ref q1), (0, .ref b)] [.int (-2)] [(q2, .inr (10, [.int 0, .ref (mm 1), .ref (mm 2), .ref (mm 3), .ref (mm 4), .ref (mm 5), .int 0, .int 0, .int 0, .int 0, .int 0, .long 0, .int 0, .int 0, .int 0, .int (-1), .ref (mm 6), .ref (mm 7), .ref (mm 8), .ref (mm 9), .ref (mm 10), .ref (mm 11), .ref (mm 12), .ref (mm 13), .int 0, .ref (mm 14), .ref (mm 15), .ref (mm 16), .ref (mm 17), .int 0, .int 0, .int 0, .ref (mm 18), .ref (mm 19), .int 0, .int 0, .ref (mm 20), .ref (mm 21), .ref (mm 22), .int 0, .int 0, .int 0, .int 0, .ref (mm 23), .ref (mm 24), .ref (mm 25), .int 0])), ((mm 1), .inl (E.2.2 0, 4, .inl wd)), ((mm 2), .inl (E.2.2 0, 4, .inl (fun _ => 0))), ((mm 3), .inl (E.2.2 2, 240, .inr (.inl (fun _ => 0))))] 84 11441
    refine mp_run hF mp_tabL_ok [mp_i (.aload_n 2), mp_i (.aload_n 0), mp_i (.iload_n 3), mp_c (.iconst 1) 1, mp_i .iadd] (by decide +kernel) ?_
    intro z148 h149
    obtain rfl : z148 = 1 := h149.trans (by decide)
    show mp_W E X 4 2064 [(3, .int 0), (2, .ref q2), (1, .ref q1), (0, .ref b)] [.int 1, .ref b, .ref q2, .int (-2)] [(q2, .inr (10, [.int 0, .ref (mm 1), .ref (mm 2), .ref (mm 3), .ref (mm 4), .ref (mm 5), .int 0, .int 0, .int 0, .int 0, .int 0, .long 0, .int 0, .int 0, .int 0, .int (-1), .ref (mm 6), .ref (mm 7), .ref (mm 8), .ref (mm 9), .ref (mm 10), .ref (mm 11), .ref (mm 12), .ref (mm 13), .int 0, .ref (mm 14), .ref (mm 15), .ref (mm 16), .ref (mm 17), .int 0, .int 0, .int 0, .ref (mm 18), .ref (mm 19), .int 0, .int 0, .ref (mm 20), .ref (mm 21), .ref (mm 22), .int 0, .int 0, .int 0, .int 0, .ref (mm 23), .ref (mm 24), .ref (mm 25), .int 0])), ((mm 1), .inl (E.2.2 0, 4, .inl wd)), ((mm 2), .inl (E.2.2 0, 4, .inl (fun _ => 0))), ((mm 3), .inl (E.2.2 2, 240, .inr (.inl (fun _ => 0))))] 84 11441
    refine mp_lsld hL 1 (by decide) (by decide) (by decide) (by decide +kernel) ?_
    show mp_W E X 4 2065 [(3, .int 0), (2, .ref q2), (1, .ref q1), (0, .ref b)] [.int (xs 1), .ref q2, .int (-2)] [(q2, .inr (10, [.int 0, .ref (mm 1), .ref (mm 2), .ref (mm 3), .ref (mm 4), .ref (mm 5), .int 0, .int 0, .int 0, .int 0, .int 0, .long 0, .int 0, .int 0, .int 0, .int (-1), .ref (mm 6), .ref (mm 7), .ref (mm 8), .ref (mm 9), .ref (mm 10), .ref (mm 11), .ref (mm 12), .ref (mm 13), .int 0, .ref (mm 14), .ref (mm 15), .ref (mm 16), .ref (mm 17), .int 0, .int 0, .int 0, .ref (mm 18), .ref (mm 19), .int 0, .int 0, .ref (mm 20), .ref (mm 21), .ref (mm 22), .int 0, .int 0, .int 0, .int 0, .ref (mm 23), .ref (mm 24), .ref (mm 25), .int 0])), ((mm 1), .inl (E.2.2 0, 4, .inl wd)), ((mm 2), .inl (E.2.2 0, 4, .inl (fun _ => 0))), ((mm 3), .inl (E.2.2 2, 240, .inr (.inl (fun _ => 0))))] 84 11441
    refine mp_run hF mp_tabL_ok [mp_i (.aload_n 0), mp_i (.iload_n 3), mp_c (.iconst 2) 2, mp_i .iadd] (by decide +kernel) ?_
    intro z150 h151
    obtain rfl : z150 = 2 := h151.trans (by decide)
    show mp_W E X 4 2069 [(3, .int 0), (2, .ref q2), (1, .ref q1), (0, .ref b)] [.int 2, .ref b, .int (xs 1), .ref q2, .int (-2)] [(q2, .inr (10, [.int 0, .ref (mm 1), .ref (mm 2), .ref (mm 3), .ref (mm 4), .ref (mm 5), .int 0, .int 0, .int 0, .int 0, .int 0, .long 0, .int 0, .int 0, .int 0, .int (-1), .ref (mm 6), .ref (mm 7), .ref (mm 8), .ref (mm 9), .ref (mm 10), .ref (mm 11), .ref (mm 12), .ref (mm 13), .int 0, .ref (mm 14), .ref (mm 15), .ref (mm 16), .ref (mm 17), .int 0, .int 0, .int 0, .ref (mm 18), .ref (mm 19), .int 0, .int 0, .ref (mm 20), .ref (mm 21), .ref (mm 22), .int 0, .int 0, .int 0, .int 0, .ref (mm 23), .ref (mm 24), .ref (mm 25), .int 0])), ((mm 1), .inl (E.2.2 0, 4, .inl wd)), ((mm 2), .inl (E.2.2 0, 4, .inl (fun _ => 0))), ((mm 3), .inl (E.2.2 2, 240, .inr (.inl (fun _ => 0))))] 84 11441
    refine mp_lsld hL 2 (by decide) (by decide) (by decide) (by decide +kernel) ?_
    show mp_W E X 4 2070 [(3, .int 0), (2, .ref q2), (1, .ref q1), (0, .ref b)] [.int (xs 2), .int (xs 1), .ref q2, .int (-2)] [(q2, .inr (10, [.int 0, .ref (mm 1), .ref (mm 2), .ref (mm 3), .ref (mm 4), .ref (mm 5), .int 0, .int 0, .int 0, .int 0, .int 0, .long 0, .int 0, .int 0, .int 0, .int (-1), .ref (mm 6), .ref (mm 7), .ref (mm 8), .ref (mm 9), .ref (mm 10), .ref (mm 11), .ref (mm 12), .ref (mm 13), .int 0, .ref (mm 14), .ref (mm 15), .ref (mm 16), .ref (mm 17), .int 0, .int 0, .int 0, .ref (mm 18), .ref (mm 19), .int 0, .int 0, .ref (mm 20), .ref (mm 21), .ref (mm 22), .int 0, .int 0, .int 0, .int 0, .ref (mm 23), .ref (mm 24), .ref (mm 25), .int 0])), ((mm 1), .inl (E.2.2 0, 4, .inl wd)), ((mm 2), .inl (E.2.2 0, 4, .inl (fun _ => 0))), ((mm 3), .inl (E.2.2 2, 240, .inr (.inl (fun _ => 0))))] 84 11441
    refine mp_run hF mp_tabL_ok [mp_i (.aload_n 0), mp_i (.iload_n 3), mp_c (.iconst 3) 3, mp_i .iadd] (by decide +kernel) ?_
    intro z152 h153
    obtain rfl : z152 = 3 := h153.trans (by decide)
    show mp_W E X 4 2074 [(3, .int 0), (2, .ref q2), (1, .ref q1), (0, .ref b)] [.int 3, .ref b, .int (xs 2), .int (xs 1), .ref q2, .int (-2)] [(q2, .inr (10, [.int 0, .ref (mm 1), .ref (mm 2), .ref (mm 3), .ref (mm 4), .ref (mm 5), .int 0, .int 0, .int 0, .int 0, .int 0, .long 0, .int 0, .int 0, .int 0, .int (-1), .ref (mm 6), .ref (mm 7), .ref (mm 8), .ref (mm 9), .ref (mm 10), .ref (mm 11), .ref (mm 12), .ref (mm 13), .int 0, .ref (mm 14), .ref (mm 15), .ref (mm 16), .ref (mm 17), .int 0, .int 0, .int 0, .ref (mm 18), .ref (mm 19), .int 0, .int 0, .ref (mm 20), .ref (mm 21), .ref (mm 22), .int 0, .int 0, .int 0, .int 0, .ref (mm 23), .ref (mm 24), .ref (mm 25), .int 0])), ((mm 1), .inl (E.2.2 0, 4, .inl wd)), ((mm 2), .inl (E.2.2 0, 4, .inl (fun _ => 0))), ((mm 3), .inl (E.2.2 2, 240, .inr (.inl (fun _ => 0))))] 84 11441
    refine mp_lsld hL 3 (by decide) (by decide) (by decide) (by decide +kernel) ?_
    show mp_W E X 4 2075 [(3, .int 0), (2, .ref q2), (1, .ref q1), (0, .ref b)] [.int (xs 3), .int (xs 2), .int (xs 1), .ref q2, .int (-2)] [(q2, .inr (10, [.int 0, .ref (mm 1), .ref (mm 2), .ref (mm 3), .ref (mm 4), .ref (mm 5), .int 0, .int 0, .int 0, .int 0, .int 0, .long 0, .int 0, .int 0, .int 0, .int (-1), .ref (mm 6), .ref (mm 7), .ref (mm 8), .ref (mm 9), .ref (mm 10), .ref (mm 11), .ref (mm 12), .ref (mm 13), .int 0, .ref (mm 14), .ref (mm 15), .ref (mm 16), .ref (mm 17), .int 0, .int 0, .int 0, .ref (mm 18), .ref (mm 19), .int 0, .int 0, .ref (mm 20), .ref (mm 21), .ref (mm 22), .int 0, .int 0, .int 0, .int 0, .ref (mm 23), .ref (mm 24), .ref (mm 25), .int 0])), ((mm 1), .inl (E.2.2 0, 4, .inl wd)), ((mm 2), .inl (E.2.2 0, 4, .inl (fun _ => 0))), ((mm 3), .inl (E.2.2 2, 240, .inr (.inl (fun _ => 0))))] 84 11441
    refine mp_callV hF (As := [.int (xs 1), .int (xs 2), .int (xs 3)]) (rest := [.int (-2)]) (wr := []) (aX10_row_193 E q2 (mm 1) (mm 2) (mm 3) (mm 4) (mm 5) (mm 6) (mm 7) (mm 8) (mm 9) (mm 10) (mm 11) (mm 12) (mm 13) (mm 14) (mm 15) (mm 16) (mm 17) (mm 18) (mm 19) (mm 20) (mm 21) (mm 22) (mm 23) (mm 24) (mm 25) wd (xs 1) (xs 2) (xs 3) hwd) mp_lkL_251 0 rfl [0, 1, 2, 3] [] rfl rfl rfl rfl rfl ⟨(Nat.le_of_ble_eq_true rfl), (Nat.le_of_ble_eq_true rfl), (Nat.le_of_ble_eq_true rfl), (Nat.le_of_ble_eq_true rfl)⟩ (Nat.le_of_ble_eq_true rfl) (by decide +kernel) (fun v154 w155 h156 => ?_)
    rcases h156 with ⟨rfl, c157, rfl⟩ | ⟨rfl, c158, c159, rfl⟩ | ⟨rfl, c160, c161, c162, rfl⟩ | ⟨rfl, c163, c164, c165, c166, rfl⟩ | ⟨rfl, c167, c168, c169, c170, c171, rfl⟩ | ⟨rfl, c172, c173, c174, c175, c176, c177, rfl⟩ | ⟨rfl, c178, c179, c180, c181, c182, c183, rfl⟩
    · skip
      have c157 : (xs 1).toInt < 0 := c157
      exfalso; omega
    · skip
      have c158 : 0 ≤ (xs 1).toInt := c158
      have c159 : 3 < (xs 1).toInt := c159
      exfalso; omega
    · skip
      have c160 : 0 ≤ (xs 1).toInt := c160
      have c161 : (xs 1).toInt ≤ 3 := c161
      have c162 : (xs 2).toInt < 0 := c162
      exfalso; omega
    · skip
      have c163 : 0 ≤ (xs 1).toInt := c163
      have c164 : (xs 1).toInt ≤ 3 := c164
      have c165 : 0 ≤ (xs 2).toInt := c165
      have c166 : 3 < (xs 2).toInt := c166
      show mp_W E X 4 2078 [(3, .int 0), (2, .ref q2), (1, .ref q1), (0, .ref b)] [.int (-2), .int (-2)] [] 84 11441
      refine mp_run hF mp_tabL_ok [mp_h (.if_icmp .eq 141) [2219]] (by decide +kernel) ?_
      refine And.intro (fun _ => ?_) (fun c184 => absurd c184 (by decide))
      show mp_W E X 4 2219 [(3, .int 0), (2, .ref q2), (1, .ref q1), (0, .ref b)] [] [] 84 11441
      exact mp_sub [3, 0] rfl [] rfl rfl (mp_lw_next hL (Nat.le_of_ble_eq_true rfl) (Nat.le_of_ble_eq_true rfl))
    · skip
      have c167 : 0 ≤ (xs 1).toInt := c167
      have c168 : (xs 1).toInt ≤ 3 := c168
      have c169 : 0 ≤ (xs 2).toInt := c169
      have c170 : (xs 2).toInt ≤ 3 := c170
      have c171 : 60 < (xs 3).toInt := c171
      exfalso; omega
    · skip
      have c172 : 0 ≤ (xs 1).toInt := c172
      have c173 : (xs 1).toInt ≤ 3 := c173
      have c174 : 0 ≤ (xs 2).toInt := c174
      have c175 : (xs 2).toInt ≤ 3 := c175
      have c176 : (xs 3).toInt ≤ 60 := c176
      have c177 : 0 ≤ (xs 3).toInt := c177
      exfalso; omega
    · skip
      have c178 : 0 ≤ (xs 1).toInt := c178
      have c179 : (xs 1).toInt ≤ 3 := c179
      have c180 : 0 ≤ (xs 2).toInt := c180
      have c181 : (xs 2).toInt ≤ 3 := c181
      have c182 : (xs 3).toInt ≤ 60 := c182
      have c183 : (xs 3).toInt < 0 := c183
      exfalso; omega
  · skip
    have c20 : 0 ≤ (xs 1).toInt := c20
    have c21 : (xs 1).toInt < 4 := c21
    have c22 : 0 ≤ (xs 2).toInt := c22
    have c23 : (xs 2).toInt < 4 := c23
    have c24 : 60 < (xs 3).toInt := c24
    show mp_W E X 4 2059 [(3, .int 0), (2, .ref q2), (1, .ref q1), (0, .ref b)] [.int (-2)] [(q2, .inr (10, [.int 0, .ref (mm 1), .ref (mm 2), .ref (mm 3), .ref (mm 4), .ref (mm 5), .int 0, .int 0, .int 0, .int 0, .int 0, .long 0, .int 0, .int 0, .int 0, .int (-1), .ref (mm 6), .ref (mm 7), .ref (mm 8), .ref (mm 9), .ref (mm 10), .ref (mm 11), .ref (mm 12), .ref (mm 13), .int 0, .ref (mm 14), .ref (mm 15), .ref (mm 16), .ref (mm 17), .int 0, .int 0, .int 0, .ref (mm 18), .ref (mm 19), .int 0, .int 0, .ref (mm 20), .ref (mm 21), .ref (mm 22), .int 0, .int 0, .int 0, .int 0, .ref (mm 23), .ref (mm 24), .ref (mm 25), .int 0])), ((mm 1), .inl (E.2.2 0, 4, .inl wd)), ((mm 2), .inl (E.2.2 0, 4, .inl (fun _ => 0))), ((mm 3), .inl (E.2.2 2, 240, .inr (.inl (fun _ => 0))))] 84 11441
    refine mp_run hF mp_tabL_ok [mp_i (.aload_n 2), mp_i (.aload_n 0), mp_i (.iload_n 3), mp_c (.iconst 1) 1, mp_i .iadd] (by decide +kernel) ?_
    intro z185 h186
    obtain rfl : z185 = 1 := h186.trans (by decide)
    show mp_W E X 4 2064 [(3, .int 0), (2, .ref q2), (1, .ref q1), (0, .ref b)] [.int 1, .ref b, .ref q2, .int (-2)] [(q2, .inr (10, [.int 0, .ref (mm 1), .ref (mm 2), .ref (mm 3), .ref (mm 4), .ref (mm 5), .int 0, .int 0, .int 0, .int 0, .int 0, .long 0, .int 0, .int 0, .int 0, .int (-1), .ref (mm 6), .ref (mm 7), .ref (mm 8), .ref (mm 9), .ref (mm 10), .ref (mm 11), .ref (mm 12), .ref (mm 13), .int 0, .ref (mm 14), .ref (mm 15), .ref (mm 16), .ref (mm 17), .int 0, .int 0, .int 0, .ref (mm 18), .ref (mm 19), .int 0, .int 0, .ref (mm 20), .ref (mm 21), .ref (mm 22), .int 0, .int 0, .int 0, .int 0, .ref (mm 23), .ref (mm 24), .ref (mm 25), .int 0])), ((mm 1), .inl (E.2.2 0, 4, .inl wd)), ((mm 2), .inl (E.2.2 0, 4, .inl (fun _ => 0))), ((mm 3), .inl (E.2.2 2, 240, .inr (.inl (fun _ => 0))))] 84 11441
    refine mp_lsld hL 1 (by decide) (by decide) (by decide) (by decide +kernel) ?_
    show mp_W E X 4 2065 [(3, .int 0), (2, .ref q2), (1, .ref q1), (0, .ref b)] [.int (xs 1), .ref q2, .int (-2)] [(q2, .inr (10, [.int 0, .ref (mm 1), .ref (mm 2), .ref (mm 3), .ref (mm 4), .ref (mm 5), .int 0, .int 0, .int 0, .int 0, .int 0, .long 0, .int 0, .int 0, .int 0, .int (-1), .ref (mm 6), .ref (mm 7), .ref (mm 8), .ref (mm 9), .ref (mm 10), .ref (mm 11), .ref (mm 12), .ref (mm 13), .int 0, .ref (mm 14), .ref (mm 15), .ref (mm 16), .ref (mm 17), .int 0, .int 0, .int 0, .ref (mm 18), .ref (mm 19), .int 0, .int 0, .ref (mm 20), .ref (mm 21), .ref (mm 22), .int 0, .int 0, .int 0, .int 0, .ref (mm 23), .ref (mm 24), .ref (mm 25), .int 0])), ((mm 1), .inl (E.2.2 0, 4, .inl wd)), ((mm 2), .inl (E.2.2 0, 4, .inl (fun _ => 0))), ((mm 3), .inl (E.2.2 2, 240, .inr (.inl (fun _ => 0))))] 84 11441
    refine mp_run hF mp_tabL_ok [mp_i (.aload_n 0), mp_i (.iload_n 3), mp_c (.iconst 2) 2, mp_i .iadd] (by decide +kernel) ?_
    intro z187 h188
    obtain rfl : z187 = 2 := h188.trans (by decide)
    show mp_W E X 4 2069 [(3, .int 0), (2, .ref q2), (1, .ref q1), (0, .ref b)] [.int 2, .ref b, .int (xs 1), .ref q2, .int (-2)] [(q2, .inr (10, [.int 0, .ref (mm 1), .ref (mm 2), .ref (mm 3), .ref (mm 4), .ref (mm 5), .int 0, .int 0, .int 0, .int 0, .int 0, .long 0, .int 0, .int 0, .int 0, .int (-1), .ref (mm 6), .ref (mm 7), .ref (mm 8), .ref (mm 9), .ref (mm 10), .ref (mm 11), .ref (mm 12), .ref (mm 13), .int 0, .ref (mm 14), .ref (mm 15), .ref (mm 16), .ref (mm 17), .int 0, .int 0, .int 0, .ref (mm 18), .ref (mm 19), .int 0, .int 0, .ref (mm 20), .ref (mm 21), .ref (mm 22), .int 0, .int 0, .int 0, .int 0, .ref (mm 23), .ref (mm 24), .ref (mm 25), .int 0])), ((mm 1), .inl (E.2.2 0, 4, .inl wd)), ((mm 2), .inl (E.2.2 0, 4, .inl (fun _ => 0))), ((mm 3), .inl (E.2.2 2, 240, .inr (.inl (fun _ => 0))))] 84 11441
    refine mp_lsld hL 2 (by decide) (by decide) (by decide) (by decide +kernel) ?_
    show mp_W E X 4 2070 [(3, .int 0), (2, .ref q2), (1, .ref q1), (0, .ref b)] [.int (xs 2), .int (xs 1), .ref q2, .int (-2)] [(q2, .inr (10, [.int 0, .ref (mm 1), .ref (mm 2), .ref (mm 3), .ref (mm 4), .ref (mm 5), .int 0, .int 0, .int 0, .int 0, .int 0, .long 0, .int 0, .int 0, .int 0, .int (-1), .ref (mm 6), .ref (mm 7), .ref (mm 8), .ref (mm 9), .ref (mm 10), .ref (mm 11), .ref (mm 12), .ref (mm 13), .int 0, .ref (mm 14), .ref (mm 15), .ref (mm 16), .ref (mm 17), .int 0, .int 0, .int 0, .ref (mm 18), .ref (mm 19), .int 0, .int 0, .ref (mm 20), .ref (mm 21), .ref (mm 22), .int 0, .int 0, .int 0, .int 0, .ref (mm 23), .ref (mm 24), .ref (mm 25), .int 0])), ((mm 1), .inl (E.2.2 0, 4, .inl wd)), ((mm 2), .inl (E.2.2 0, 4, .inl (fun _ => 0))), ((mm 3), .inl (E.2.2 2, 240, .inr (.inl (fun _ => 0))))] 84 11441
    refine mp_run hF mp_tabL_ok [mp_i (.aload_n 0), mp_i (.iload_n 3), mp_c (.iconst 3) 3, mp_i .iadd] (by decide +kernel) ?_
    intro z189 h190
    obtain rfl : z189 = 3 := h190.trans (by decide)
    show mp_W E X 4 2074 [(3, .int 0), (2, .ref q2), (1, .ref q1), (0, .ref b)] [.int 3, .ref b, .int (xs 2), .int (xs 1), .ref q2, .int (-2)] [(q2, .inr (10, [.int 0, .ref (mm 1), .ref (mm 2), .ref (mm 3), .ref (mm 4), .ref (mm 5), .int 0, .int 0, .int 0, .int 0, .int 0, .long 0, .int 0, .int 0, .int 0, .int (-1), .ref (mm 6), .ref (mm 7), .ref (mm 8), .ref (mm 9), .ref (mm 10), .ref (mm 11), .ref (mm 12), .ref (mm 13), .int 0, .ref (mm 14), .ref (mm 15), .ref (mm 16), .ref (mm 17), .int 0, .int 0, .int 0, .ref (mm 18), .ref (mm 19), .int 0, .int 0, .ref (mm 20), .ref (mm 21), .ref (mm 22), .int 0, .int 0, .int 0, .int 0, .ref (mm 23), .ref (mm 24), .ref (mm 25), .int 0])), ((mm 1), .inl (E.2.2 0, 4, .inl wd)), ((mm 2), .inl (E.2.2 0, 4, .inl (fun _ => 0))), ((mm 3), .inl (E.2.2 2, 240, .inr (.inl (fun _ => 0))))] 84 11441
    refine mp_lsld hL 3 (by decide) (by decide) (by decide) (by decide +kernel) ?_
    show mp_W E X 4 2075 [(3, .int 0), (2, .ref q2), (1, .ref q1), (0, .ref b)] [.int (xs 3), .int (xs 2), .int (xs 1), .ref q2, .int (-2)] [(q2, .inr (10, [.int 0, .ref (mm 1), .ref (mm 2), .ref (mm 3), .ref (mm 4), .ref (mm 5), .int 0, .int 0, .int 0, .int 0, .int 0, .long 0, .int 0, .int 0, .int 0, .int (-1), .ref (mm 6), .ref (mm 7), .ref (mm 8), .ref (mm 9), .ref (mm 10), .ref (mm 11), .ref (mm 12), .ref (mm 13), .int 0, .ref (mm 14), .ref (mm 15), .ref (mm 16), .ref (mm 17), .int 0, .int 0, .int 0, .ref (mm 18), .ref (mm 19), .int 0, .int 0, .ref (mm 20), .ref (mm 21), .ref (mm 22), .int 0, .int 0, .int 0, .int 0, .ref (mm 23), .ref (mm 24), .ref (mm 25), .int 0])), ((mm 1), .inl (E.2.2 0, 4, .inl wd)), ((mm 2), .inl (E.2.2 0, 4, .inl (fun _ => 0))), ((mm 3), .inl (E.2.2 2, 240, .inr (.inl (fun _ => 0))))] 84 11441
    refine mp_callV hF (As := [.int (xs 1), .int (xs 2), .int (xs 3)]) (rest := [.int (-2)]) (wr := []) (aX10_row_193 E q2 (mm 1) (mm 2) (mm 3) (mm 4) (mm 5) (mm 6) (mm 7) (mm 8) (mm 9) (mm 10) (mm 11) (mm 12) (mm 13) (mm 14) (mm 15) (mm 16) (mm 17) (mm 18) (mm 19) (mm 20) (mm 21) (mm 22) (mm 23) (mm 24) (mm 25) wd (xs 1) (xs 2) (xs 3) hwd) mp_lkL_251 0 rfl [0, 1, 2, 3] [] rfl rfl rfl rfl rfl ⟨(Nat.le_of_ble_eq_true rfl), (Nat.le_of_ble_eq_true rfl), (Nat.le_of_ble_eq_true rfl), (Nat.le_of_ble_eq_true rfl)⟩ (Nat.le_of_ble_eq_true rfl) (by decide +kernel) (fun v191 w192 h193 => ?_)
    rcases h193 with ⟨rfl, c194, rfl⟩ | ⟨rfl, c195, c196, rfl⟩ | ⟨rfl, c197, c198, c199, rfl⟩ | ⟨rfl, c200, c201, c202, c203, rfl⟩ | ⟨rfl, c204, c205, c206, c207, c208, rfl⟩ | ⟨rfl, c209, c210, c211, c212, c213, c214, rfl⟩ | ⟨rfl, c215, c216, c217, c218, c219, c220, rfl⟩
    · skip
      have c194 : (xs 1).toInt < 0 := c194
      exfalso; omega
    · skip
      have c195 : 0 ≤ (xs 1).toInt := c195
      have c196 : 3 < (xs 1).toInt := c196
      exfalso; omega
    · skip
      have c197 : 0 ≤ (xs 1).toInt := c197
      have c198 : (xs 1).toInt ≤ 3 := c198
      have c199 : (xs 2).toInt < 0 := c199
      exfalso; omega
    · skip
      have c200 : 0 ≤ (xs 1).toInt := c200
      have c201 : (xs 1).toInt ≤ 3 := c201
      have c202 : 0 ≤ (xs 2).toInt := c202
      have c203 : 3 < (xs 2).toInt := c203
      exfalso; omega
    · skip
      have c204 : 0 ≤ (xs 1).toInt := c204
      have c205 : (xs 1).toInt ≤ 3 := c205
      have c206 : 0 ≤ (xs 2).toInt := c206
      have c207 : (xs 2).toInt ≤ 3 := c207
      have c208 : 60 < (xs 3).toInt := c208
      show mp_W E X 4 2078 [(3, .int 0), (2, .ref q2), (1, .ref q1), (0, .ref b)] [.int (-2), .int (-2)] [] 84 11441
      refine mp_run hF mp_tabL_ok [mp_h (.if_icmp .eq 141) [2219]] (by decide +kernel) ?_
      refine And.intro (fun _ => ?_) (fun c221 => absurd c221 (by decide))
      show mp_W E X 4 2219 [(3, .int 0), (2, .ref q2), (1, .ref q1), (0, .ref b)] [] [] 84 11441
      exact mp_sub [3, 0] rfl [] rfl rfl (mp_lw_next hL (Nat.le_of_ble_eq_true rfl) (Nat.le_of_ble_eq_true rfl))
    · skip
      have c209 : 0 ≤ (xs 1).toInt := c209
      have c210 : (xs 1).toInt ≤ 3 := c210
      have c211 : 0 ≤ (xs 2).toInt := c211
      have c212 : (xs 2).toInt ≤ 3 := c212
      have c213 : (xs 3).toInt ≤ 60 := c213
      have c214 : 0 ≤ (xs 3).toInt := c214
      exfalso; omega
    · skip
      have c215 : 0 ≤ (xs 1).toInt := c215
      have c216 : (xs 1).toInt ≤ 3 := c216
      have c217 : 0 ≤ (xs 2).toInt := c217
      have c218 : (xs 2).toInt ≤ 3 := c218
      have c219 : (xs 3).toInt ≤ 60 := c219
      have c220 : (xs 3).toInt < 0 := c220
      exfalso; omega
  · skip
    have c25 : 0 ≤ (xs 1).toInt := c25
    have c26 : (xs 1).toInt < 4 := c26
    have c27 : 0 ≤ (xs 2).toInt := c27
    have c28 : (xs 2).toInt < 4 := c28
    have c29 : (xs 3).toInt ≤ 60 := c29
    have c30 : 0 ≤ (xs 3).toInt := c30
    show mp_W E X 4 2059 [(3, .int 0), (2, .ref q2), (1, .ref q1), (0, .ref b)] [.int 0] [(q2, .inr (10, [.int 0, .ref (mm 1), .ref (mm 2), .ref (mm 3), .ref (mm 4), .ref (mm 5), .int 0, .int 0, .int 0, .int 0, .int 0, .long 0, .int 0, .int 0, .int 0, .int (-1), .ref (mm 6), .ref (mm 7), .ref (mm 8), .ref (mm 9), .ref (mm 10), .ref (mm 11), .ref (mm 12), .ref (mm 13), .int 0, .ref (mm 14), .ref (mm 15), .ref (mm 16), .ref (mm 17), .int 0, .int 0, .int 0, .ref (mm 18), .ref (mm 19), .int 0, .int 0, .ref (mm 20), .ref (mm 21), .ref (mm 22), .int 0, .int 0, .int 0, .int 0, .ref (mm 23), .ref (mm 24), .ref (mm 25), .int 0])), ((mm 1), .inl (E.2.2 0, 4, .inl wd)), ((mm 2), .inl (E.2.2 0, 4, .inl (fun _ => 0))), ((mm 3), .inl (E.2.2 2, 240, .inr (.inl (fun _ => 0))))] 84 11441
    refine mp_run hF mp_tabL_ok [mp_i (.aload_n 2), mp_i (.aload_n 0), mp_i (.iload_n 3), mp_c (.iconst 1) 1, mp_i .iadd] (by decide +kernel) ?_
    intro z222 h223
    obtain rfl : z222 = 1 := h223.trans (by decide)
    show mp_W E X 4 2064 [(3, .int 0), (2, .ref q2), (1, .ref q1), (0, .ref b)] [.int 1, .ref b, .ref q2, .int 0] [(q2, .inr (10, [.int 0, .ref (mm 1), .ref (mm 2), .ref (mm 3), .ref (mm 4), .ref (mm 5), .int 0, .int 0, .int 0, .int 0, .int 0, .long 0, .int 0, .int 0, .int 0, .int (-1), .ref (mm 6), .ref (mm 7), .ref (mm 8), .ref (mm 9), .ref (mm 10), .ref (mm 11), .ref (mm 12), .ref (mm 13), .int 0, .ref (mm 14), .ref (mm 15), .ref (mm 16), .ref (mm 17), .int 0, .int 0, .int 0, .ref (mm 18), .ref (mm 19), .int 0, .int 0, .ref (mm 20), .ref (mm 21), .ref (mm 22), .int 0, .int 0, .int 0, .int 0, .ref (mm 23), .ref (mm 24), .ref (mm 25), .int 0])), ((mm 1), .inl (E.2.2 0, 4, .inl wd)), ((mm 2), .inl (E.2.2 0, 4, .inl (fun _ => 0))), ((mm 3), .inl (E.2.2 2, 240, .inr (.inl (fun _ => 0))))] 84 11441
    refine mp_lsld hL 1 (by decide) (by decide) (by decide) (by decide +kernel) ?_
    show mp_W E X 4 2065 [(3, .int 0), (2, .ref q2), (1, .ref q1), (0, .ref b)] [.int (xs 1), .ref q2, .int 0] [(q2, .inr (10, [.int 0, .ref (mm 1), .ref (mm 2), .ref (mm 3), .ref (mm 4), .ref (mm 5), .int 0, .int 0, .int 0, .int 0, .int 0, .long 0, .int 0, .int 0, .int 0, .int (-1), .ref (mm 6), .ref (mm 7), .ref (mm 8), .ref (mm 9), .ref (mm 10), .ref (mm 11), .ref (mm 12), .ref (mm 13), .int 0, .ref (mm 14), .ref (mm 15), .ref (mm 16), .ref (mm 17), .int 0, .int 0, .int 0, .ref (mm 18), .ref (mm 19), .int 0, .int 0, .ref (mm 20), .ref (mm 21), .ref (mm 22), .int 0, .int 0, .int 0, .int 0, .ref (mm 23), .ref (mm 24), .ref (mm 25), .int 0])), ((mm 1), .inl (E.2.2 0, 4, .inl wd)), ((mm 2), .inl (E.2.2 0, 4, .inl (fun _ => 0))), ((mm 3), .inl (E.2.2 2, 240, .inr (.inl (fun _ => 0))))] 84 11441
    refine mp_run hF mp_tabL_ok [mp_i (.aload_n 0), mp_i (.iload_n 3), mp_c (.iconst 2) 2, mp_i .iadd] (by decide +kernel) ?_
    intro z224 h225
    obtain rfl : z224 = 2 := h225.trans (by decide)
    show mp_W E X 4 2069 [(3, .int 0), (2, .ref q2), (1, .ref q1), (0, .ref b)] [.int 2, .ref b, .int (xs 1), .ref q2, .int 0] [(q2, .inr (10, [.int 0, .ref (mm 1), .ref (mm 2), .ref (mm 3), .ref (mm 4), .ref (mm 5), .int 0, .int 0, .int 0, .int 0, .int 0, .long 0, .int 0, .int 0, .int 0, .int (-1), .ref (mm 6), .ref (mm 7), .ref (mm 8), .ref (mm 9), .ref (mm 10), .ref (mm 11), .ref (mm 12), .ref (mm 13), .int 0, .ref (mm 14), .ref (mm 15), .ref (mm 16), .ref (mm 17), .int 0, .int 0, .int 0, .ref (mm 18), .ref (mm 19), .int 0, .int 0, .ref (mm 20), .ref (mm 21), .ref (mm 22), .int 0, .int 0, .int 0, .int 0, .ref (mm 23), .ref (mm 24), .ref (mm 25), .int 0])), ((mm 1), .inl (E.2.2 0, 4, .inl wd)), ((mm 2), .inl (E.2.2 0, 4, .inl (fun _ => 0))), ((mm 3), .inl (E.2.2 2, 240, .inr (.inl (fun _ => 0))))] 84 11441
    refine mp_lsld hL 2 (by decide) (by decide) (by decide) (by decide +kernel) ?_
    show mp_W E X 4 2070 [(3, .int 0), (2, .ref q2), (1, .ref q1), (0, .ref b)] [.int (xs 2), .int (xs 1), .ref q2, .int 0] [(q2, .inr (10, [.int 0, .ref (mm 1), .ref (mm 2), .ref (mm 3), .ref (mm 4), .ref (mm 5), .int 0, .int 0, .int 0, .int 0, .int 0, .long 0, .int 0, .int 0, .int 0, .int (-1), .ref (mm 6), .ref (mm 7), .ref (mm 8), .ref (mm 9), .ref (mm 10), .ref (mm 11), .ref (mm 12), .ref (mm 13), .int 0, .ref (mm 14), .ref (mm 15), .ref (mm 16), .ref (mm 17), .int 0, .int 0, .int 0, .ref (mm 18), .ref (mm 19), .int 0, .int 0, .ref (mm 20), .ref (mm 21), .ref (mm 22), .int 0, .int 0, .int 0, .int 0, .ref (mm 23), .ref (mm 24), .ref (mm 25), .int 0])), ((mm 1), .inl (E.2.2 0, 4, .inl wd)), ((mm 2), .inl (E.2.2 0, 4, .inl (fun _ => 0))), ((mm 3), .inl (E.2.2 2, 240, .inr (.inl (fun _ => 0))))] 84 11441
    refine mp_run hF mp_tabL_ok [mp_i (.aload_n 0), mp_i (.iload_n 3), mp_c (.iconst 3) 3, mp_i .iadd] (by decide +kernel) ?_
    intro z226 h227
    obtain rfl : z226 = 3 := h227.trans (by decide)
    show mp_W E X 4 2074 [(3, .int 0), (2, .ref q2), (1, .ref q1), (0, .ref b)] [.int 3, .ref b, .int (xs 2), .int (xs 1), .ref q2, .int 0] [(q2, .inr (10, [.int 0, .ref (mm 1), .ref (mm 2), .ref (mm 3), .ref (mm 4), .ref (mm 5), .int 0, .int 0, .int 0, .int 0, .int 0, .long 0, .int 0, .int 0, .int 0, .int (-1), .ref (mm 6), .ref (mm 7), .ref (mm 8), .ref (mm 9), .ref (mm 10), .ref (mm 11), .ref (mm 12), .ref (mm 13), .int 0, .ref (mm 14), .ref (mm 15), .ref (mm 16), .ref (mm 17), .int 0, .int 0, .int 0, .ref (mm 18), .ref (mm 19), .int 0, .int 0, .ref (mm 20), .ref (mm 21), .ref (mm 22), .int 0, .int 0, .int 0, .int 0, .ref (mm 23), .ref (mm 24), .ref (mm 25), .int 0])), ((mm 1), .inl (E.2.2 0, 4, .inl wd)), ((mm 2), .inl (E.2.2 0, 4, .inl (fun _ => 0))), ((mm 3), .inl (E.2.2 2, 240, .inr (.inl (fun _ => 0))))] 84 11441
    refine mp_lsld hL 3 (by decide) (by decide) (by decide) (by decide +kernel) ?_
    show mp_W E X 4 2075 [(3, .int 0), (2, .ref q2), (1, .ref q1), (0, .ref b)] [.int (xs 3), .int (xs 2), .int (xs 1), .ref q2, .int 0] [(q2, .inr (10, [.int 0, .ref (mm 1), .ref (mm 2), .ref (mm 3), .ref (mm 4), .ref (mm 5), .int 0, .int 0, .int 0, .int 0, .int 0, .long 0, .int 0, .int 0, .int 0, .int (-1), .ref (mm 6), .ref (mm 7), .ref (mm 8), .ref (mm 9), .ref (mm 10), .ref (mm 11), .ref (mm 12), .ref (mm 13), .int 0, .ref (mm 14), .ref (mm 15), .ref (mm 16), .ref (mm 17), .int 0, .int 0, .int 0, .ref (mm 18), .ref (mm 19), .int 0, .int 0, .ref (mm 20), .ref (mm 21), .ref (mm 22), .int 0, .int 0, .int 0, .int 0, .ref (mm 23), .ref (mm 24), .ref (mm 25), .int 0])), ((mm 1), .inl (E.2.2 0, 4, .inl wd)), ((mm 2), .inl (E.2.2 0, 4, .inl (fun _ => 0))), ((mm 3), .inl (E.2.2 2, 240, .inr (.inl (fun _ => 0))))] 84 11441
    refine mp_callV hF (As := [.int (xs 1), .int (xs 2), .int (xs 3)]) (rest := [.int 0]) (wr := []) (aX10_row_193 E q2 (mm 1) (mm 2) (mm 3) (mm 4) (mm 5) (mm 6) (mm 7) (mm 8) (mm 9) (mm 10) (mm 11) (mm 12) (mm 13) (mm 14) (mm 15) (mm 16) (mm 17) (mm 18) (mm 19) (mm 20) (mm 21) (mm 22) (mm 23) (mm 24) (mm 25) wd (xs 1) (xs 2) (xs 3) hwd) mp_lkL_251 0 rfl [0, 1, 2, 3] [] rfl rfl rfl rfl rfl ⟨(Nat.le_of_ble_eq_true rfl), (Nat.le_of_ble_eq_true rfl), (Nat.le_of_ble_eq_true rfl), (Nat.le_of_ble_eq_true rfl)⟩ (Nat.le_of_ble_eq_true rfl) (by decide +kernel) (fun v228 w229 h230 => ?_)
    rcases h230 with ⟨rfl, c231, rfl⟩ | ⟨rfl, c232, c233, rfl⟩ | ⟨rfl, c234, c235, c236, rfl⟩ | ⟨rfl, c237, c238, c239, c240, rfl⟩ | ⟨rfl, c241, c242, c243, c244, c245, rfl⟩ | ⟨rfl, c246, c247, c248, c249, c250, c251, rfl⟩ | ⟨rfl, c252, c253, c254, c255, c256, c257, rfl⟩
    · skip
      have c231 : (xs 1).toInt < 0 := c231
      exfalso; omega
    · skip
      have c232 : 0 ≤ (xs 1).toInt := c232
      have c233 : 3 < (xs 1).toInt := c233
      exfalso; omega
    · skip
      have c234 : 0 ≤ (xs 1).toInt := c234
      have c235 : (xs 1).toInt ≤ 3 := c235
      have c236 : (xs 2).toInt < 0 := c236
      exfalso; omega
    · skip
      have c237 : 0 ≤ (xs 1).toInt := c237
      have c238 : (xs 1).toInt ≤ 3 := c238
      have c239 : 0 ≤ (xs 2).toInt := c239
      have c240 : 3 < (xs 2).toInt := c240
      exfalso; omega
    · skip
      have c241 : 0 ≤ (xs 1).toInt := c241
      have c242 : (xs 1).toInt ≤ 3 := c242
      have c243 : 0 ≤ (xs 2).toInt := c243
      have c244 : (xs 2).toInt ≤ 3 := c244
      have c245 : 60 < (xs 3).toInt := c245
      exfalso; omega
    · skip
      have c246 : 0 ≤ (xs 1).toInt := c246
      have c247 : (xs 1).toInt ≤ 3 := c247
      have c248 : 0 ≤ (xs 2).toInt := c248
      have c249 : (xs 2).toInt ≤ 3 := c249
      have c250 : (xs 3).toInt ≤ 60 := c250
      have c251 : 0 ≤ (xs 3).toInt := c251
      show mp_W E X 4 2078 [(3, .int 0), (2, .ref q2), (1, .ref q1), (0, .ref b)] [.int 0, .int 0] [] 84 11441
      refine mp_run hF mp_tabL_ok [mp_h (.if_icmp .eq 141) [2219]] (by decide +kernel) ?_
      refine And.intro (fun _ => ?_) (fun c258 => absurd c258 (by decide))
      show mp_W E X 4 2219 [(3, .int 0), (2, .ref q2), (1, .ref q1), (0, .ref b)] [] [] 84 11441
      exact mp_sub [3, 0] rfl [] rfl rfl (mp_lw_next hL (Nat.le_of_ble_eq_true rfl) (Nat.le_of_ble_eq_true rfl))
    · skip
      have c252 : 0 ≤ (xs 1).toInt := c252
      have c253 : (xs 1).toInt ≤ 3 := c253
      have c254 : 0 ≤ (xs 2).toInt := c254
      have c255 : (xs 2).toInt ≤ 3 := c255
      have c256 : (xs 3).toInt ≤ 60 := c256
      have c257 : (xs 3).toInt < 0 := c257
      exfalso; omega
  · skip
    have c31 : 0 ≤ (xs 1).toInt := c31
    have c32 : (xs 1).toInt < 4 := c32
    have c33 : 0 ≤ (xs 2).toInt := c33
    have c34 : (xs 2).toInt < 4 := c34
    have c35 : (xs 3).toInt ≤ 60 := c35
    have c36 : (xs 3).toInt < 0 := c36
    show mp_W E X 4 2059 [(3, .int 0), (2, .ref q2), (1, .ref q1), (0, .ref b)] [.int (-3)] [(q2, .inr (10, [.int 0, .ref (mm 1), .ref (mm 2), .ref (mm 3), .ref (mm 4), .ref (mm 5), .int 0, .int 0, .int 0, .int 0, .int 0, .long 0, .int 0, .int 0, .int 0, .int (-1), .ref (mm 6), .ref (mm 7), .ref (mm 8), .ref (mm 9), .ref (mm 10), .ref (mm 11), .ref (mm 12), .ref (mm 13), .int 0, .ref (mm 14), .ref (mm 15), .ref (mm 16), .ref (mm 17), .int 0, .int 0, .int 0, .ref (mm 18), .ref (mm 19), .int 0, .int 0, .ref (mm 20), .ref (mm 21), .ref (mm 22), .int 0, .int 0, .int 0, .int 0, .ref (mm 23), .ref (mm 24), .ref (mm 25), .int 0])), ((mm 1), .inl (E.2.2 0, 4, .inl wd)), ((mm 2), .inl (E.2.2 0, 4, .inl (fun _ => 0))), ((mm 3), .inl (E.2.2 2, 240, .inr (.inl (fun _ => 0))))] 84 11441
    refine mp_run hF mp_tabL_ok [mp_i (.aload_n 2), mp_i (.aload_n 0), mp_i (.iload_n 3), mp_c (.iconst 1) 1, mp_i .iadd] (by decide +kernel) ?_
    intro z259 h260
    obtain rfl : z259 = 1 := h260.trans (by decide)
    show mp_W E X 4 2064 [(3, .int 0), (2, .ref q2), (1, .ref q1), (0, .ref b)] [.int 1, .ref b, .ref q2, .int (-3)] [(q2, .inr (10, [.int 0, .ref (mm 1), .ref (mm 2), .ref (mm 3), .ref (mm 4), .ref (mm 5), .int 0, .int 0, .int 0, .int 0, .int 0, .long 0, .int 0, .int 0, .int 0, .int (-1), .ref (mm 6), .ref (mm 7), .ref (mm 8), .ref (mm 9), .ref (mm 10), .ref (mm 11), .ref (mm 12), .ref (mm 13), .int 0, .ref (mm 14), .ref (mm 15), .ref (mm 16), .ref (mm 17), .int 0, .int 0, .int 0, .ref (mm 18), .ref (mm 19), .int 0, .int 0, .ref (mm 20), .ref (mm 21), .ref (mm 22), .int 0, .int 0, .int 0, .int 0, .ref (mm 23), .ref (mm 24), .ref (mm 25), .int 0])), ((mm 1), .inl (E.2.2 0, 4, .inl wd)), ((mm 2), .inl (E.2.2 0, 4, .inl (fun _ => 0))), ((mm 3), .inl (E.2.2 2, 240, .inr (.inl (fun _ => 0))))] 84 11441
    refine mp_lsld hL 1 (by decide) (by decide) (by decide) (by decide +kernel) ?_
    show mp_W E X 4 2065 [(3, .int 0), (2, .ref q2), (1, .ref q1), (0, .ref b)] [.int (xs 1), .ref q2, .int (-3)] [(q2, .inr (10, [.int 0, .ref (mm 1), .ref (mm 2), .ref (mm 3), .ref (mm 4), .ref (mm 5), .int 0, .int 0, .int 0, .int 0, .int 0, .long 0, .int 0, .int 0, .int 0, .int (-1), .ref (mm 6), .ref (mm 7), .ref (mm 8), .ref (mm 9), .ref (mm 10), .ref (mm 11), .ref (mm 12), .ref (mm 13), .int 0, .ref (mm 14), .ref (mm 15), .ref (mm 16), .ref (mm 17), .int 0, .int 0, .int 0, .ref (mm 18), .ref (mm 19), .int 0, .int 0, .ref (mm 20), .ref (mm 21), .ref (mm 22), .int 0, .int 0, .int 0, .int 0, .ref (mm 23), .ref (mm 24), .ref (mm 25), .int 0])), ((mm 1), .inl (E.2.2 0, 4, .inl wd)), ((mm 2), .inl (E.2.2 0, 4, .inl (fun _ => 0))), ((mm 3), .inl (E.2.2 2, 240, .inr (.inl (fun _ => 0))))] 84 11441
    refine mp_run hF mp_tabL_ok [mp_i (.aload_n 0), mp_i (.iload_n 3), mp_c (.iconst 2) 2, mp_i .iadd] (by decide +kernel) ?_
    intro z261 h262
    obtain rfl : z261 = 2 := h262.trans (by decide)
    show mp_W E X 4 2069 [(3, .int 0), (2, .ref q2), (1, .ref q1), (0, .ref b)] [.int 2, .ref b, .int (xs 1), .ref q2, .int (-3)] [(q2, .inr (10, [.int 0, .ref (mm 1), .ref (mm 2), .ref (mm 3), .ref (mm 4), .ref (mm 5), .int 0, .int 0, .int 0, .int 0, .int 0, .long 0, .int 0, .int 0, .int 0, .int (-1), .ref (mm 6), .ref (mm 7), .ref (mm 8), .ref (mm 9), .ref (mm 10), .ref (mm 11), .ref (mm 12), .ref (mm 13), .int 0, .ref (mm 14), .ref (mm 15), .ref (mm 16), .ref (mm 17), .int 0, .int 0, .int 0, .ref (mm 18), .ref (mm 19), .int 0, .int 0, .ref (mm 20), .ref (mm 21), .ref (mm 22), .int 0, .int 0, .int 0, .int 0, .ref (mm 23), .ref (mm 24), .ref (mm 25), .int 0])), ((mm 1), .inl (E.2.2 0, 4, .inl wd)), ((mm 2), .inl (E.2.2 0, 4, .inl (fun _ => 0))), ((mm 3), .inl (E.2.2 2, 240, .inr (.inl (fun _ => 0))))] 84 11441
    refine mp_lsld hL 2 (by decide) (by decide) (by decide) (by decide +kernel) ?_
    show mp_W E X 4 2070 [(3, .int 0), (2, .ref q2), (1, .ref q1), (0, .ref b)] [.int (xs 2), .int (xs 1), .ref q2, .int (-3)] [(q2, .inr (10, [.int 0, .ref (mm 1), .ref (mm 2), .ref (mm 3), .ref (mm 4), .ref (mm 5), .int 0, .int 0, .int 0, .int 0, .int 0, .long 0, .int 0, .int 0, .int 0, .int (-1), .ref (mm 6), .ref (mm 7), .ref (mm 8), .ref (mm 9), .ref (mm 10), .ref (mm 11), .ref (mm 12), .ref (mm 13), .int 0, .ref (mm 14), .ref (mm 15), .ref (mm 16), .ref (mm 17), .int 0, .int 0, .int 0, .ref (mm 18), .ref (mm 19), .int 0, .int 0, .ref (mm 20), .ref (mm 21), .ref (mm 22), .int 0, .int 0, .int 0, .int 0, .ref (mm 23), .ref (mm 24), .ref (mm 25), .int 0])), ((mm 1), .inl (E.2.2 0, 4, .inl wd)), ((mm 2), .inl (E.2.2 0, 4, .inl (fun _ => 0))), ((mm 3), .inl (E.2.2 2, 240, .inr (.inl (fun _ => 0))))] 84 11441
    refine mp_run hF mp_tabL_ok [mp_i (.aload_n 0), mp_i (.iload_n 3), mp_c (.iconst 3) 3, mp_i .iadd] (by decide +kernel) ?_
    intro z263 h264
    obtain rfl : z263 = 3 := h264.trans (by decide)
    show mp_W E X 4 2074 [(3, .int 0), (2, .ref q2), (1, .ref q1), (0, .ref b)] [.int 3, .ref b, .int (xs 2), .int (xs 1), .ref q2, .int (-3)] [(q2, .inr (10, [.int 0, .ref (mm 1), .ref (mm 2), .ref (mm 3), .ref (mm 4), .ref (mm 5), .int 0, .int 0, .int 0, .int 0, .int 0, .long 0, .int 0, .int 0, .int 0, .int (-1), .ref (mm 6), .ref (mm 7), .ref (mm 8), .ref (mm 9), .ref (mm 10), .ref (mm 11), .ref (mm 12), .ref (mm 13), .int 0, .ref (mm 14), .ref (mm 15), .ref (mm 16), .ref (mm 17), .int 0, .int 0, .int 0, .ref (mm 18), .ref (mm 19), .int 0, .int 0, .ref (mm 20), .ref (mm 21), .ref (mm 22), .int 0, .int 0, .int 0, .int 0, .ref (mm 23), .ref (mm 24), .ref (mm 25), .int 0])), ((mm 1), .inl (E.2.2 0, 4, .inl wd)), ((mm 2), .inl (E.2.2 0, 4, .inl (fun _ => 0))), ((mm 3), .inl (E.2.2 2, 240, .inr (.inl (fun _ => 0))))] 84 11441
    refine mp_lsld hL 3 (by decide) (by decide) (by decide) (by decide +kernel) ?_
    show mp_W E X 4 2075 [(3, .int 0), (2, .ref q2), (1, .ref q1), (0, .ref b)] [.int (xs 3), .int (xs 2), .int (xs 1), .ref q2, .int (-3)] [(q2, .inr (10, [.int 0, .ref (mm 1), .ref (mm 2), .ref (mm 3), .ref (mm 4), .ref (mm 5), .int 0, .int 0, .int 0, .int 0, .int 0, .long 0, .int 0, .int 0, .int 0, .int (-1), .ref (mm 6), .ref (mm 7), .ref (mm 8), .ref (mm 9), .ref (mm 10), .ref (mm 11), .ref (mm 12), .ref (mm 13), .int 0, .ref (mm 14), .ref (mm 15), .ref (mm 16), .ref (mm 17), .int 0, .int 0, .int 0, .ref (mm 18), .ref (mm 19), .int 0, .int 0, .ref (mm 20), .ref (mm 21), .ref (mm 22), .int 0, .int 0, .int 0, .int 0, .ref (mm 23), .ref (mm 24), .ref (mm 25), .int 0])), ((mm 1), .inl (E.2.2 0, 4, .inl wd)), ((mm 2), .inl (E.2.2 0, 4, .inl (fun _ => 0))), ((mm 3), .inl (E.2.2 2, 240, .inr (.inl (fun _ => 0))))] 84 11441
    refine mp_callV hF (As := [.int (xs 1), .int (xs 2), .int (xs 3)]) (rest := [.int (-3)]) (wr := []) (aX10_row_193 E q2 (mm 1) (mm 2) (mm 3) (mm 4) (mm 5) (mm 6) (mm 7) (mm 8) (mm 9) (mm 10) (mm 11) (mm 12) (mm 13) (mm 14) (mm 15) (mm 16) (mm 17) (mm 18) (mm 19) (mm 20) (mm 21) (mm 22) (mm 23) (mm 24) (mm 25) wd (xs 1) (xs 2) (xs 3) hwd) mp_lkL_251 0 rfl [0, 1, 2, 3] [] rfl rfl rfl rfl rfl ⟨(Nat.le_of_ble_eq_true rfl), (Nat.le_of_ble_eq_true rfl), (Nat.le_of_ble_eq_true rfl), (Nat.le_of_ble_eq_true rfl)⟩ (Nat.le_of_ble_eq_true rfl) (by decide +kernel) (fun v265 w266 h267 => ?_)
    rcases h267 with ⟨rfl, c268, rfl⟩ | ⟨rfl, c269, c270, rfl⟩ | ⟨rfl, c271, c272, c273, rfl⟩ | ⟨rfl, c274, c275, c276, c277, rfl⟩ | ⟨rfl, c278, c279, c280, c281, c282, rfl⟩ | ⟨rfl, c283, c284, c285, c286, c287, c288, rfl⟩ | ⟨rfl, c289, c290, c291, c292, c293, c294, rfl⟩
    · skip
      have c268 : (xs 1).toInt < 0 := c268
      exfalso; omega
    · skip
      have c269 : 0 ≤ (xs 1).toInt := c269
      have c270 : 3 < (xs 1).toInt := c270
      exfalso; omega
    · skip
      have c271 : 0 ≤ (xs 1).toInt := c271
      have c272 : (xs 1).toInt ≤ 3 := c272
      have c273 : (xs 2).toInt < 0 := c273
      exfalso; omega
    · skip
      have c274 : 0 ≤ (xs 1).toInt := c274
      have c275 : (xs 1).toInt ≤ 3 := c275
      have c276 : 0 ≤ (xs 2).toInt := c276
      have c277 : 3 < (xs 2).toInt := c277
      exfalso; omega
    · skip
      have c278 : 0 ≤ (xs 1).toInt := c278
      have c279 : (xs 1).toInt ≤ 3 := c279
      have c280 : 0 ≤ (xs 2).toInt := c280
      have c281 : (xs 2).toInt ≤ 3 := c281
      have c282 : 60 < (xs 3).toInt := c282
      exfalso; omega
    · skip
      have c283 : 0 ≤ (xs 1).toInt := c283
      have c284 : (xs 1).toInt ≤ 3 := c284
      have c285 : 0 ≤ (xs 2).toInt := c285
      have c286 : (xs 2).toInt ≤ 3 := c286
      have c287 : (xs 3).toInt ≤ 60 := c287
      have c288 : 0 ≤ (xs 3).toInt := c288
      exfalso; omega
    · skip
      have c289 : 0 ≤ (xs 1).toInt := c289
      have c290 : (xs 1).toInt ≤ 3 := c290
      have c291 : 0 ≤ (xs 2).toInt := c291
      have c292 : (xs 2).toInt ≤ 3 := c292
      have c293 : (xs 3).toInt ≤ 60 := c293
      have c294 : (xs 3).toInt < 0 := c294
      show mp_W E X 4 2078 [(3, .int 0), (2, .ref q2), (1, .ref q1), (0, .ref b)] [.int (-3), .int (-3)] [] 84 11441
      refine mp_run hF mp_tabL_ok [mp_h (.if_icmp .eq 141) [2219]] (by decide +kernel) ?_
      refine And.intro (fun _ => ?_) (fun c295 => absurd c295 (by decide))
      show mp_W E X 4 2219 [(3, .int 0), (2, .ref q2), (1, .ref q1), (0, .ref b)] [] [] 84 11441
      exact mp_sub [3, 0] rfl [] rfl rfl (mp_lw_next hL (Nat.le_of_ble_eq_true rfl) (Nat.le_of_ble_eq_true rfl))

