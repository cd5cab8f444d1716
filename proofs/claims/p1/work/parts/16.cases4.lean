set_option maxHeartbeats 4000000 in
set_option maxRecDepth 100000 in
theorem mp_case_58 {E : mp_E} {X : mp_X} {b : Nat} {xs : Nat → Int32} (hL : mp_Lw E X b 6 xs) (q1 q2 : Nat) (bb mm : Nat → Nat) (vs ln wd : Nat → Int32) (hln : ∀ j, j < 4 → ln j = -1) (hwd : ∀ j, j < 4 → wd j = -1) : mp_W E X 4 2083 [(3, .int 0), (2, .ref q2), (1, .ref q1), (0, .ref b)] [] (mp_w0 E q1 q2 bb mm vs ln wd) 84 11441 := by
  have hF : mp_F E X (RL, code, 4, (2048, 600000, 7302250, 84000), ret, false) := hL.1
  show mp_W E X 4 2083 [(3, .int 0), (2, .ref q2), (1, .ref q1), (0, .ref b)] [] (mp_w0 E q1 q2 bb mm vs ln wd) 84 11441
  refine mp_run hF mp_tabL_ok [mp_i (.aload_n 1), mp_i (.aload_n 0), mp_i (.iload_n 3), mp_c (.iconst 1) 1, mp_i .iadd] (by decide +kernel) ?_
  intro z1 h2
  obtain rfl : z1 = 1 := h2.trans (by decide)
  show mp_W E X 4 2088 [(3, .int 0), (2, .ref q2), (1, .ref q1), (0, .ref b)] [.int 1, .ref b, .ref q1] (mp_w0 E q1 q2 bb mm vs ln wd) 84 11441
  refine mp_lsld hL 1 (by decide) (by decide) (by decide) (by decide +kernel) ?_
  show mp_W E X 4 2089 [(3, .int 0), (2, .ref q2), (1, .ref q1), (0, .ref b)] [.int (xs 1), .ref q1] (mp_w0 E q1 q2 bb mm vs ln wd) 84 11441
  refine mp_run hF mp_tabL_ok [mp_i (.aload_n 0), mp_i (.iload_n 3), mp_c (.iconst 2) 2, mp_i .iadd] (by decide +kernel) ?_
  intro z3 h4
  obtain rfl : z3 = 2 := h4.trans (by decide)
  show mp_W E X 4 2093 [(3, .int 0), (2, .ref q2), (1, .ref q1), (0, .ref b)] [.int 2, .ref b, .int (xs 1), .ref q1] (mp_w0 E q1 q2 bb mm vs ln wd) 84 11441
  refine mp_lsld hL 2 (by decide) (by decide) (by decide) (by decide +kernel) ?_
  show mp_W E X 4 2094 [(3, .int 0), (2, .ref q2), (1, .ref q1), (0, .ref b)] [.int (xs 2), .int (xs 1), .ref q1] (mp_w0 E q1 q2 bb mm vs ln wd) 84 11441
  refine mp_run hF mp_tabL_ok [mp_i (.aload_n 0), mp_i (.iload_n 3), mp_c (.iconst 3) 3, mp_i .iadd] (by decide +kernel) ?_
  intro z5 h6
  obtain rfl : z5 = 3 := h6.trans (by decide)
  show mp_W E X 4 2098 [(3, .int 0), (2, .ref q2), (1, .ref q1), (0, .ref b)] [.int 3, .ref b, .int (xs 2), .int (xs 1), .ref q1] (mp_w0 E q1 q2 bb mm vs ln wd) 84 11441
  refine mp_lsld hL 3 (by decide) (by decide) (by decide) (by decide +kernel) ?_
  show mp_W E X 4 2099 [(3, .int 0), (2, .ref q2), (1, .ref q1), (0, .ref b)] [.int (xs 3), .int (xs 2), .int (xs 1), .ref q1] (mp_w0 E q1 q2 bb mm vs ln wd) 84 11441
  refine mp_run hF mp_tabL_ok [mp_i .i2l, mp_c (.bipush 32) 32, mp_i .lshl, mp_i (.aload_n 0), mp_i (.iload_n 3), mp_c (.iconst 4) 4, mp_i .iadd] (by decide +kernel) ?_
  intro z7 h8
  have e9 : z7.toInt = (xs 3).toInt := mp_i2l h8
  intro z10 h11
  intro z12 h13
  obtain rfl : z12 = 4 := h13.trans (by decide)
  show mp_W E X 4 2107 [(3, .int 0), (2, .ref q2), (1, .ref q1), (0, .ref b)] [.int 4, .ref b, .long z10, .int (xs 2), .int (xs 1), .ref q1] (mp_w0 E q1 q2 bb mm vs ln wd) 84 11441
  refine mp_lsld hL 4 (by decide) (by decide) (by decide) (by decide +kernel) ?_
  show mp_W E X 4 2108 [(3, .int 0), (2, .ref q2), (1, .ref q1), (0, .ref b)] [.int (xs 4), .long z10, .int (xs 2), .int (xs 1), .ref q1] (mp_w0 E q1 q2 bb mm vs ln wd) 84 11441
  refine mp_run hF mp_tabL_ok [mp_i .i2l, mp_cl (.ldc2_w 252) 4294967295, mp_i .land, mp_i .lor] (by decide +kernel) ?_
  intro z14 h15
  have e16 : z14.toInt = (xs 4).toInt := mp_i2l h15
  intro z17 h18
  intro z19 h20
  show mp_W E X 4 2114 [(3, .int 0), (2, .ref q2), (1, .ref q1), (0, .ref b)] [.long z19, .int (xs 2), .int (xs 1), .ref q1] (mp_w0 E q1 q2 bb mm vs ln wd) 84 11441
  refine mp_callV hF (As := [.int (xs 1), .int (xs 2), .long z19]) (rest := []) (wr := [(q2, .inr (10, [.int 0, .ref (mm 1), .ref (mm 2), .ref (mm 3), .ref (mm 4), .ref (mm 5), .int 0, .int 0, .int 0, .int 0, .int 0, .long 0, .int 0, .int 0, .int 0, .int (-1), .ref (mm 6), .ref (mm 7), .ref (mm 8), .ref (mm 9), .ref (mm 10), .ref (mm 11), .ref (mm 12), .ref (mm 13), .int 0, .ref (mm 14), .ref (mm 15), .ref (mm 16), .ref (mm 17), .int 0, .int 0, .int 0, .ref (mm 18), .ref (mm 19), .int 0, .int 0, .ref (mm 20), .ref (mm 21), .ref (mm 22), .int 0, .int 0, .int 0, .int 0, .ref (mm 23), .ref (mm 24), .ref (mm 25), .int 0])), ((mm 1), .inl (E.2.2 0, 4, .inl wd))]) (aX9_write_194 E q1 (bb 54) (bb 57) (bb 1) (bb 16) (bb 36) (bb 37) (bb 40) (bb 46) (bb 49) (bb 52) (bb 55) (bb 56) ln (xs 1) (xs 2) z19 hln) mp_lkL_254 0 rfl [0, 54, 57] [58, 59] rfl rfl rfl rfl rfl ⟨(Nat.le_of_ble_eq_true rfl), (Nat.le_of_ble_eq_true rfl), (Nat.le_of_ble_eq_true rfl), (Nat.le_of_ble_eq_true rfl)⟩ (Nat.le_of_ble_eq_true rfl) (by decide +kernel) (fun v21 w22 h23 => ?_)
  rcases h23 with ⟨rfl, c24, rfl⟩ | ⟨rfl, c25, c26, rfl⟩ | ⟨rfl, c27, c28, rfl⟩
  · skip
    have c24 : (xs 1).toInt < 0 := c24
    show mp_W E X 4 2117 [(3, .int 0), (2, .ref q2), (1, .ref q1), (0, .ref b)] [.int (-2)] [(q2, .inr (10, [.int 0, .ref (mm 1), .ref (mm 2), .ref (mm 3), .ref (mm 4), .ref (mm 5), .int 0, .int 0, .int 0, .int 0, .int 0, .long 0, .int 0, .int 0, .int 0, .int (-1), .ref (mm 6), .ref (mm 7), .ref (mm 8), .ref (mm 9), .ref (mm 10), .ref (mm 11), .ref (mm 12), .ref (mm 13), .int 0, .ref (mm 14), .ref (mm 15), .ref (mm 16), .ref (mm 17), .int 0, .int 0, .int 0, .ref (mm 18), .ref (mm 19), .int 0, .int 0, .ref (mm 20), .ref (mm 21), .ref (mm 22), .int 0, .int 0, .int 0, .int 0, .ref (mm 23), .ref (mm 24), .ref (mm 25), .int 0])), ((mm 1), .inl (E.2.2 0, 4, .inl wd))] 84 11441
    refine mp_run hF mp_tabL_ok [mp_i (.aload_n 2), mp_i (.aload_n 0), mp_i (.iload_n 3), mp_c (.iconst 1) 1, mp_i .iadd] (by decide +kernel) ?_
    intro z29 h30
    obtain rfl : z29 = 1 := h30.trans (by decide)
    show mp_W E X 4 2122 [(3, .int 0), (2, .ref q2), (1, .ref q1), (0, .ref b)] [.int 1, .ref b, .ref q2, .int (-2)] [(q2, .inr (10, [.int 0, .ref (mm 1), .ref (mm 2), .ref (mm 3), .ref (mm 4), .ref (mm 5), .int 0, .int 0, .int 0, .int 0, .int 0, .long 0, .int 0, .int 0, .int 0, .int (-1), .ref (mm 6), .ref (mm 7), .ref (mm 8), .ref (mm 9), .ref (mm 10), .ref (mm 11), .ref (mm 12), .ref (mm 13), .int 0, .ref (mm 14), .ref (mm 15), .ref (mm 16), .ref (mm 17), .int 0, .int 0, .int 0, .ref (mm 18), .ref (mm 19), .int 0, .int 0, .ref (mm 20), .ref (mm 21), .ref (mm 22), .int 0, .int 0, .int 0, .int 0, .ref (mm 23), .ref (mm 24), .ref (mm 25), .int 0])), ((mm 1), .inl (E.2.2 0, 4, .inl wd))] 84 11441
    refine mp_lsld hL 1 (by decide) (by decide) (by decide) (by decide +kernel) ?_
    show mp_W E X 4 2123 [(3, .int 0), (2, .ref q2), (1, .ref q1), (0, .ref b)] [.int (xs 1), .ref q2, .int (-2)] [(q2, .inr (10, [.int 0, .ref (mm 1), .ref (mm 2), .ref (mm 3), .ref (mm 4), .ref (mm 5), .int 0, .int 0, .int 0, .int 0, .int 0, .long 0, .int 0, .int 0, .int 0, .int (-1), .ref (mm 6), .ref (mm 7), .ref (mm 8), .ref (mm 9), .ref (mm 10), .ref (mm 11), .ref (mm 12), .ref (mm 13), .int 0, .ref (mm 14), .ref (mm 15), .ref (mm 16), .ref (mm 17), .int 0, .int 0, .int 0, .ref (mm 18), .ref (mm 19), .int 0, .int 0, .ref (mm 20), .ref (mm 21), .ref (mm 22), .int 0, .int 0, .int 0, .int 0, .ref (mm 23), .ref (mm 24), .ref (mm 25), .int 0])), ((mm 1), .inl (E.2.2 0, 4, .inl wd))] 84 11441
    refine mp_run hF mp_tabL_ok [mp_i (.aload_n 0), mp_i (.iload_n 3), mp_c (.iconst 2) 2, mp_i .iadd] (by decide +kernel) ?_
    intro z31 h32
    obtain rfl : z31 = 2 := h32.trans (by decide)
    show mp_W E X 4 2127 [(3, .int 0), (2, .ref q2), (1, .ref q1), (0, .ref b)] [.int 2, .ref b, .int (xs 1), .ref q2, .int (-2)] [(q2, .inr (10, [.int 0, .ref (mm 1), .ref (mm 2), .ref (mm 3), .ref (mm 4), .ref (mm 5), .int 0, .int 0, .int 0, .int 0, .int 0, .long 0, .int 0, .int 0, .int 0, .int (-1), .ref (mm 6), .ref (mm 7), .ref (mm 8), .ref (mm 9), .ref (mm 10), .ref (mm 11), .ref (mm 12), .ref (mm 13), .int 0, .ref (mm 14), .ref (mm 15), .ref (mm 16), .ref (mm 17), .int 0, .int 0, .int 0, .ref (mm 18), .ref (mm 19), .int 0, .int 0, .ref (mm 20), .ref (mm 21), .ref (mm 22), .int 0, .int 0, .int 0, .int 0, .ref (mm 23), .ref (mm 24), .ref (mm 25), .int 0])), ((mm 1), .inl (E.2.2 0, 4, .inl wd))] 84 11441
    refine mp_lsld hL 2 (by decide) (by decide) (by decide) (by decide +kernel) ?_
    show mp_W E X 4 2128 [(3, .int 0), (2, .ref q2), (1, .ref q1), (0, .ref b)] [.int (xs 2), .int (xs 1), .ref q2, .int (-2)] [(q2, .inr (10, [.int 0, .ref (mm 1), .ref (mm 2), .ref (mm 3), .ref (mm 4), .ref (mm 5), .int 0, .int 0, .int 0, .int 0, .int 0, .long 0, .int 0, .int 0, .int 0, .int (-1), .ref (mm 6), .ref (mm 7), .ref (mm 8), .ref (mm 9), .ref (mm 10), .ref (mm 11), .ref (mm 12), .ref (mm 13), .int 0, .ref (mm 14), .ref (mm 15), .ref (mm 16), .ref (mm 17), .int 0, .int 0, .int 0, .ref (mm 18), .ref (mm 19), .int 0, .int 0, .ref (mm 20), .ref (mm 21), .ref (mm 22), .int 0, .int 0, .int 0, .int 0, .ref (mm 23), .ref (mm 24), .ref (mm 25), .int 0])), ((mm 1), .inl (E.2.2 0, 4, .inl wd))] 84 11441
    refine mp_run hF mp_tabL_ok [mp_i (.aload_n 0), mp_i (.iload_n 3), mp_c (.iconst 3) 3, mp_i .iadd] (by decide +kernel) ?_
    intro z33 h34
    obtain rfl : z33 = 3 := h34.trans (by decide)
    show mp_W E X 4 2132 [(3, .int 0), (2, .ref q2), (1, .ref q1), (0, .ref b)] [.int 3, .ref b, .int (xs 2), .int (xs 1), .ref q2, .int (-2)] [(q2, .inr (10, [.int 0, .ref (mm 1), .ref (mm 2), .ref (mm 3), .ref (mm 4), .ref (mm 5), .int 0, .int 0, .int 0, .int 0, .int 0, .long 0, .int 0, .int 0, .int 0, .int (-1), .ref (mm 6), .ref (mm 7), .ref (mm 8), .ref (mm 9), .ref (mm 10), .ref (mm 11), .ref (mm 12), .ref (mm 13), .int 0, .ref (mm 14), .ref (mm 15), .ref (mm 16), .ref (mm 17), .int 0, .int 0, .int 0, .ref (mm 18), .ref (mm 19), .int 0, .int 0, .ref (mm 20), .ref (mm 21), .ref (mm 22), .int 0, .int 0, .int 0, .int 0, .ref (mm 23), .ref (mm 24), .ref (mm 25), .int 0])), ((mm 1), .inl (E.2.2 0, 4, .inl wd))] 84 11441
    refine mp_lsld hL 3 (by decide) (by decide) (by decide) (by decide +kernel) ?_
    show mp_W E X 4 2133 [(3, .int 0), (2, .ref q2), (1, .ref q1), (0, .ref b)] [.int (xs 3), .int (xs 2), .int (xs 1), .ref q2, .int (-2)] [(q2, .inr (10, [.int 0, .ref (mm 1), .ref (mm 2), .ref (mm 3), .ref (mm 4), .ref (mm 5), .int 0, .int 0, .int 0, .int 0, .int 0, .long 0, .int 0, .int 0, .int 0, .int (-1), .ref (mm 6), .ref (mm 7), .ref (mm 8), .ref (mm 9), .ref (mm 10), .ref (mm 11), .ref (mm 12), .ref (mm 13), .int 0, .ref (mm 14), .ref (mm 15), .ref (mm 16), .ref (mm 17), .int 0, .int 0, .int 0, .ref (mm 18), .ref (mm 19), .int 0, .int 0, .ref (mm 20), .ref (mm 21), .ref (mm 22), .int 0, .int 0, .int 0, .int 0, .ref (mm 23), .ref (mm 24), .ref (mm 25), .int 0])), ((mm 1), .inl (E.2.2 0, 4, .inl wd))] 84 11441
    refine mp_run hF mp_tabL_ok [mp_i .i2l, mp_c (.bipush 32) 32, mp_i .lshl, mp_i (.aload_n 0), mp_i (.iload_n 3), mp_c (.iconst 4) 4, mp_i .iadd] (by decide +kernel) ?_
    intro z35 h36
    have e37 : z35.toInt = (xs 3).toInt := mp_i2l h36
    intro z38 h39
    intro z40 h41
    obtain rfl : z40 = 4 := h41.trans (by decide)
    show mp_W E X 4 2141 [(3, .int 0), (2, .ref q2), (1, .ref q1), (0, .ref b)] [.int 4, .ref b, .long z38, .int (xs 2), .int (xs 1), .ref q2, .int (-2)] [(q2, .inr (10, [.int 0, .ref (mm 1), .ref (mm 2), .ref (mm 3), .ref (mm 4), .ref (mm 5), .int 0, .int 0, .int 0, .int 0, .int 0, .long 0, .int 0, .int 0, .int 0, .int (-1), .ref (mm 6), .ref (mm 7), .ref (mm 8), .ref (mm 9), .ref (mm 10), .ref (mm 11), .ref (mm 12), .ref (mm 13), .int 0, .ref (mm 14), .ref (mm 15), .ref (mm 16), .ref (mm 17), .int 0, .int 0, .int 0, .ref (mm 18), .ref (mm 19), .int 0, .int 0, .ref (mm 20), .ref (mm 21), .ref (mm 22), .int 0, .int 0, .int 0, .int 0, .ref (mm 23), .ref (mm 24), .ref (mm 25), .int 0])), ((mm 1), .inl (E.2.2 0, 4, .inl wd))] 84 11441
    refine mp_lsld hL 4 (by decide) (by decide) (by decide) (by decide +kernel) ?_
    show mp_W E X 4 2142 [(3, .int 0), (2, .ref q2), (1, .ref q1), (0, .ref b)] [.int (xs 4), .long z38, .int (xs 2), .int (xs 1), .ref q2, .int (-2)] [(q2, .inr (10, [.int 0, .ref (mm 1), .ref (mm 2), .ref (mm 3), .ref (mm 4), .ref (mm 5), .int 0, .int 0, .int 0, .int 0, .int 0, .long 0, .int 0, .int 0, .int 0, .int (-1), .ref (mm 6), .ref (mm 7), .ref (mm 8), .ref (mm 9), .ref (mm 10), .ref (mm 11), .ref (mm 12), .ref (mm 13), .int 0, .ref (mm 14), .ref (mm 15), .ref (mm 16), .ref (mm 17), .int 0, .int 0, .int 0, .ref (mm 18), .ref (mm 19), .int 0, .int 0, .ref (mm 20), .ref (mm 21), .ref (mm 22), .int 0, .int 0, .int 0, .int 0, .ref (mm 23), .ref (mm 24), .ref (mm 25), .int 0])), ((mm 1), .inl (E.2.2 0, 4, .inl wd))] 84 11441
    refine mp_run hF mp_tabL_ok [mp_i .i2l, mp_cl (.ldc2_w 252) 4294967295, mp_i .land, mp_i .lor] (by decide +kernel) ?_
    intro z42 h43
    have e44 : z42.toInt = (xs 4).toInt := mp_i2l h43
    intro z45 h46
    intro z47 h48
    show mp_W E X 4 2148 [(3, .int 0), (2, .ref q2), (1, .ref q1), (0, .ref b)] [.long z47, .int (xs 2), .int (xs 1), .ref q2, .int (-2)] [(q2, .inr (10, [.int 0, .ref (mm 1), .ref (mm 2), .ref (mm 3), .ref (mm 4), .ref (mm 5), .int 0, .int 0, .int 0, .int 0, .int 0, .long 0, .int 0, .int 0, .int 0, .int (-1), .ref (mm 6), .ref (mm 7), .ref (mm 8), .ref (mm 9), .ref (mm 10), .ref (mm 11), .ref (mm 12), .ref (mm 13), .int 0, .ref (mm 14), .ref (mm 15), .ref (mm 16), .ref (mm 17), .int 0, .int 0, .int 0, .ref (mm 18), .ref (mm 19), .int 0, .int 0, .ref (mm 20), .ref (mm 21), .ref (mm 22), .int 0, .int 0, .int 0, .int 0, .ref (mm 23), .ref (mm 24), .ref (mm 25), .int 0])), ((mm 1), .inl (E.2.2 0, 4, .inl wd))] 84 11441
    refine mp_callV hF (As := [.int (xs 1), .int (xs 2), .long z47]) (rest := [.int (-2)]) (wr := []) (aX10_write_195 E q2 (mm 1) (mm 2) (mm 3) (mm 4) (mm 5) (mm 6) (mm 7) (mm 8) (mm 9) (mm 10) (mm 11) (mm 12) (mm 13) (mm 14) (mm 15) (mm 16) (mm 17) (mm 18) (mm 19) (mm 20) (mm 21) (mm 22) (mm 23) (mm 24) (mm 25) wd (xs 1) (xs 2) z47 hwd) mp_lkL_258 0 rfl [0, 1] [] rfl rfl rfl rfl rfl ⟨(Nat.le_of_ble_eq_true rfl), (Nat.le_of_ble_eq_true rfl), (Nat.le_of_ble_eq_true rfl), (Nat.le_of_ble_eq_true rfl)⟩ (Nat.le_of_ble_eq_true rfl) (by decide +kernel) (fun v49 w50 h51 => ?_)
    rcases h51 with ⟨rfl, c52, rfl⟩ | ⟨rfl, c53, c54, rfl⟩ | ⟨rfl, c55, c56, rfl⟩
    · skip
      have c52 : (xs 1).toInt < 0 := c52
      show mp_W E X 4 2151 [(3, .int 0), (2, .ref q2), (1, .ref q1), (0, .ref b)] [.int (-2), .int (-2)] [] 84 11441
      refine mp_run hF mp_tabL_ok [mp_h (.if_icmp .eq 68) [2219]] (by decide +kernel) ?_
      refine And.intro (fun _ => ?_) (fun c57 => absurd c57 (by decide))
      show mp_W E X 4 2219 [(3, .int 0), (2, .ref q2), (1, .ref q1), (0, .ref b)] [] [] 84 11441
      exact mp_sub [3, 0] rfl [] rfl rfl (mp_lw_next hL (Nat.le_of_ble_eq_true rfl) (Nat.le_of_ble_eq_true rfl))
    · skip
      have c53 : 0 ≤ (xs 1).toInt := c53
      have c54 : 3 < (xs 1).toInt := c54
      exfalso; omega
    · skip
      have c55 : 0 ≤ (xs 1).toInt := c55
      have c56 : (xs 1).toInt ≤ 3 := c56
      exfalso; omega
  · skip
    have c25 : 0 ≤ (xs 1).toInt := c25
    have c26 : 4 ≤ (xs 1).toInt := c26
    show mp_W E X 4 2117 [(3, .int 0), (2, .ref q2), (1, .ref q1), (0, .ref b)] [.int (-2)] [(q2, .inr (10, [.int 0, .ref (mm 1), .ref (mm 2), .ref (mm 3), .ref (mm 4), .ref (mm 5), .int 0, .int 0, .int 0, .int 0, .int 0, .long 0, .int 0, .int 0, .int 0, .int (-1), .ref (mm 6), .ref (mm 7), .ref (mm 8), .ref (mm 9), .ref (mm 10), .ref (mm 11), .ref (mm 12), .ref (mm 13), .int 0, .ref (mm 14), .ref (mm 15), .ref (mm 16), .ref (mm 17), .int 0, .int 0, .int 0, .ref (mm 18), .ref (mm 19), .int 0, .int 0, .ref (mm 20), .ref (mm 21), .ref (mm 22), .int 0, .int 0, .int 0, .int 0, .ref (mm 23), .ref (mm 24), .ref (mm 25), .int 0])), ((mm 1), .inl (E.2.2 0, 4, .inl wd))] 84 11441
    refine mp_run hF mp_tabL_ok [mp_i (.aload_n 2), mp_i (.aload_n 0), mp_i (.iload_n 3), mp_c (.iconst 1) 1, mp_i .iadd] (by decide +kernel) ?_
    intro z58 h59
    obtain rfl : z58 = 1 := h59.trans (by decide)
    show mp_W E X 4 2122 [(3, .int 0), (2, .ref q2), (1, .ref q1), (0, .ref b)] [.int 1, .ref b, .ref q2, .int (-2)] [(q2, .inr (10, [.int 0, .ref (mm 1), .ref (mm 2), .ref (mm 3), .ref (mm 4), .ref (mm 5), .int 0, .int 0, .int 0, .int 0, .int 0, .long 0, .int 0, .int 0, .int 0, .int (-1), .ref (mm 6), .ref (mm 7), .ref (mm 8), .ref (mm 9), .ref (mm 10), .ref (mm 11), .ref (mm 12), .ref (mm 13), .int 0, .ref (mm 14), .ref (mm 15), .ref (mm 16), .ref (mm 17), .int 0, .int 0, .int 0, .ref (mm 18), .ref (mm 19), .int 0, .int 0, .ref (mm 20), .ref (mm 21), .ref (mm 22), .int 0, .int 0, .int 0, .int 0, .ref (mm 23), .ref (mm 24), .ref (mm 25), .int 0])), ((mm 1), .inl (E.2.2 0, 4, .inl wd))] 84 11441
    refine mp_lsld hL 1 (by decide) (by decide) (by decide) (by decide +kernel) ?_
    show mp_W E X 4 2123 [(3, .int 0), (2, .ref q2), (1, .ref q1), (0, .ref b)] [.int (xs 1), .ref q2, .int (-2)] [(q2, .inr (10, [.int 0, .ref (mm 1), .ref (mm 2), .ref (mm 3), .ref (mm 4), .ref (mm 5), .int 0, .int 0, .int 0, .int 0, .int 0, .long 0, .int 0, .int 0, .int 0, .int (-1), .ref (mm 6), .ref (mm 7), .ref (mm 8), .ref (mm 9), .ref (mm 10), .ref (mm 11), .ref (mm 12), .ref (mm 13), .int 0, .ref (mm 14), .ref (mm 15), .ref (mm 16), .ref (mm 17), .int 0, .int 0, .int 0, .ref (mm 18), .ref (mm 19), .int 0, .int 0, .ref (mm 20), .ref (mm 21), .ref (mm 22), .int 0, .int 0, .int 0, .int 0, .ref (mm 23), .ref (mm 24), .ref (mm 25), .int 0])), ((mm 1), .inl (E.2.2 0, 4, .inl wd))] 84 11441
    refine mp_run hF mp_tabL_ok [mp_i (.aload_n 0), mp_i (.iload_n 3), mp_c (.iconst 2) 2, mp_i .iadd] (by decide +kernel) ?_
    intro z60 h61
    obtain rfl : z60 = 2 := h61.trans (by decide)
    show mp_W E X 4 2127 [(3, .int 0), (2, .ref q2), (1, .ref q1), (0, .ref b)] [.int 2, .ref b, .int (xs 1), .ref q2, .int (-2)] [(q2, .inr (10, [.int 0, .ref (mm 1), .ref (mm 2), .ref (mm 3), .ref (mm 4), .ref (mm 5), .int 0, .int 0, .int 0, .int 0, .int 0, .long 0, .int 0, .int 0, .int 0, .int (-1), .ref (mm 6), .ref (mm 7), .ref (mm 8), .ref (mm 9), .ref (mm 10), .ref (mm 11), .ref (mm 12), .ref (mm 13), .int 0, .ref (mm 14), .ref (mm 15), .ref (mm 16), .ref (mm 17), .int 0, .int 0, .int 0, .ref (mm 18), .ref (mm 19), .int 0, .int 0, .ref (mm 20), .ref (mm 21), .ref (mm 22), .int 0, .int 0, .int 0, .int 0, .ref (mm 23), .ref (mm 24), .ref (mm 25), .int 0])), ((mm 1), .inl (E.2.2 0, 4, .inl wd))] 84 11441
    refine mp_lsld hL 2 (by decide) (by decide) (by decide) (by decide +kernel) ?_
    show mp_W E X 4 2128 [(3, .int 0), (2, .ref q2), (1, .ref q1), (0, .ref b)] [.int (xs 2), .int (xs 1), .ref q2, .int (-2)] [(q2, .inr (10, [.int 0, .ref (mm 1), .ref (mm 2), .ref (mm 3), .ref (mm 4), .ref (mm 5), .int 0, .int 0, .int 0, .int 0, .int 0, .long 0, .int 0, .int 0, .int 0, .int (-1), .ref (mm 6), .ref (mm 7), .ref (mm 8), .ref (mm 9), .ref (mm 10), .ref (mm 11), .ref (mm 12), .ref (mm 13), .int 0, .ref (mm 14), .ref (mm 15), .ref (mm 16), .ref (mm 17), .int 0, .int 0, .int 0, .ref (mm 18), .ref (mm 19), .int 0, .int 0, .ref (mm 20), .ref (mm 21), .ref (mm 22), .int 0, .int 0, .int 0, .int 0, .ref (mm 23), .ref (mm 24), .ref (mm 25), .int 0])), ((mm 1), .inl (E.2.2 0, 4, .inl wd))] 84 11441
    refine mp_run hF mp_tabL_ok [mp_i (.aload_n 0), mp_i (.iload_n 3), mp_c (.iconst 3) 3, mp_i .iadd] (by decide +kernel) ?_
    intro z62 h63
    obtain rfl : z62 = 3 := h63.trans (by decide)
    show mp_W E X 4 2132 [(3, .int 0), (2, .ref q2), (1, .ref q1), (0, .ref b)] [.int 3, .ref b, .int (xs 2), .int (xs 1), .ref q2, .int (-2)] [(q2, .inr (10, [.int 0, .ref (mm 1), .ref (mm 2), .ref (mm 3), .ref (mm 4), .ref (mm 5), .int 0, .int 0, .int 0, .int 0, .int 0, .long 0, .int 0, .int 0, .int 0, .int (-1), .ref (mm 6), .ref (mm 7), .ref (mm 8), .ref (mm 9), .ref (mm 10), .ref (mm 11), .ref (mm 12), .ref (mm 13), .int 0, .ref (mm 14), .ref (mm 15), .ref (mm 16), .ref (mm 17), .int 0, .int 0, .int 0, .ref (mm 18), .ref (mm 19), .int 0, .int 0, .ref (mm 20), .ref (mm 21), .ref (mm 22), .int 0, .int 0, .int 0, .int 0, .ref (mm 23), .ref (mm 24), .ref (mm 25), .int 0])), ((mm 1), .inl (E.2.2 0, 4, .inl wd))] 84 11441
    refine mp_lsld hL 3 (by decide) (by decide) (by decide) (by decide +kernel) ?_
    show mp_W E X 4 2133 [(3, .int 0), (2, .ref q2), (1, .ref q1), (0, .ref b)] [.int (xs 3), .int (xs 2), .int (xs 1), .ref q2, .int (-2)] [(q2, .inr (10, [.int 0, .ref (mm 1), .ref (mm 2), .ref (mm 3), .ref (mm 4), .ref (mm 5), .int 0, .int 0, .int 0, .int 0, .int 0, .long 0, .int 0, .int 0, .int 0, .int (-1), .ref (mm 6), .ref (mm 7), .ref (mm 8), .ref (mm 9), .ref (mm 10), .ref (mm 11), .ref (mm 12), .ref (mm 13), .int 0, .ref (mm 14), .ref (mm 15), .ref (mm 16), .ref (mm 17), .int 0, .int 0, .int 0, .ref (mm 18), .ref (mm 19), .int 0, .int 0, .ref (mm 20), .ref (mm 21), .ref (mm 22), .int 0, .int 0, .int 0, .int 0, .ref (mm 23), .ref (mm 24), .ref (mm 25), .int 0])), ((mm 1), .inl (E.2.2 0, 4, .inl wd))] 84 11441
    refine mp_run hF mp_tabL_ok [mp_i .i2l, mp_c (.bipush 32) 32, mp_i .lshl, mp_i (.aload_n 0), mp_i (.iload_n 3), mp_c (.iconst 4) 4, mp_i .iadd] (by decide +kernel) ?_
    intro z64 h65
    have e66 : z64.toInt = (xs 3).toInt := mp_i2l h65
    intro z67 h68
    intro z69 h70
    obtain rfl : z69 = 4 := h70.trans (by decide)
    show mp_W E X 4 2141 [(3, .int 0), (2, .ref q2), (1, .ref q1), (0, .ref b)] [.int 4, .ref b, .long z67, .int (xs 2), .int (xs 1), .ref q2, .int (-2)] [(q2, .inr (10, [.int 0, .ref (mm 1), .ref (mm 2), .ref (mm 3), .ref (mm 4), .ref (mm 5), .int 0, .int 0, .int 0, .int 0, .int 0, .long 0, .int 0, .int 0, .int 0, .int (-1), .ref (mm 6), .ref (mm 7), .ref (mm 8), .ref (mm 9), .ref (mm 10), .ref (mm 11), .ref (mm 12), .ref (mm 13), .int 0, .ref (mm 14), .ref (mm 15), .ref (mm 16), .ref (mm 17), .int 0, .int 0, .int 0, .ref (mm 18), .ref (mm 19), .int 0, .int 0, .ref (mm 20), .ref (mm 21), .ref (mm 22), .int 0, .int 0, .int 0, .int 0, .ref (mm 23), .ref (mm 24), .ref (mm 25), .int 0])), ((mm 1), .inl (E.2.2 0, 4, .inl wd))] 84 11441
    refine mp_lsld hL 4 (by decide) (by decide) (by decide) (by decide +kernel) ?_
    show mp_W E X 4 2142 [(3, .int 0), (2, .ref q2), (1, .ref q1), (0, .ref b)] [.int (xs 4), .long z67, .int (xs 2), .int (xs 1), .ref q2, .int (-2)] [(q2, .inr (10, [.int 0, .ref (mm 1), .ref (mm 2), .ref (mm 3), .ref (mm 4), .ref (mm 5), .int 0, .int 0, .int 0, .int 0, .int 0, .long 0, .int 0, .int 0, .int 0, .int (-1), .ref (mm 6), .ref (mm 7), .ref (mm 8), .ref (mm 9), .ref (mm 10), .ref (mm 11), .ref (mm 12), .ref (mm 13), .int 0, .ref (mm 14), .ref (mm 15), .ref (mm 16), .ref (mm 17), .int 0, .int 0, .int 0, .ref (mm 18), .ref (mm 19), .int 0, .int 0, .ref (mm 20), .ref (mm 21), .ref (mm 22), .int 0, .int 0, .int 0, .int 0, .ref (mm 23), .ref (mm 24), .ref (mm 25), .int 0])), ((mm 1), .inl (E.2.2 0, 4, .inl wd))] 84 11441
    refine mp_run hF mp_tabL_ok [mp_i .i2l, mp_cl (.ldc2_w 252) 4294967295, mp_i .land, mp_i .lor] (by decide +kernel) ?_
    intro z71 h72
    have e73 : z71.toInt = (xs 4).toInt := mp_i2l h72
    intro z74 h75
    intro z76 h77
    show mp_W E X 4 2148 [(3, .int 0), (2, .ref q2), (1, .ref q1), (0, .ref b)] [.long z76, .int (xs 2), .int (xs 1), .ref q2, .int (-2)] [(q2, .inr (10, [.int 0, .ref (mm 1), .ref (mm 2), .ref (mm 3), .ref (mm 4), .ref (mm 5), .int 0, .int 0, .int 0, .int 0, .int 0, .long 0, .int 0, .int 0, .int 0, .int (-1), .ref (mm 6), .ref (mm 7), .ref (mm 8), .ref (mm 9), .ref (mm 10), .ref (mm 11), .ref (mm 12), .ref (mm 13), .int 0, .ref (mm 14), .ref (mm 15), .ref (mm 16), .ref (mm 17), .int 0, .int 0, .int 0, .ref (mm 18), .ref (mm 19), .int 0, .int 0, .ref (mm 20), .ref (mm 21), .ref (mm 22), .int 0, .int 0, .int 0, .int 0, .ref (mm 23), .ref (mm 24), .ref (mm 25), .int 0])), ((mm 1), .inl (E.2.2 0, 4, .inl wd))] 84 11441
    refine mp_callV hF (As := [.int (xs 1), .int (xs 2), .long z76]) (rest := [.int (-2)]) (wr := []) (aX10_write_195 E q2 (mm 1) (mm 2) (mm 3) (mm 4) (mm 5) (mm 6) (mm 7) (mm 8) (mm 9) (mm 10) (mm 11) (mm 12) (mm 13) (mm 14) (mm 15) (mm 16) (mm 17) (mm 18) (mm 19) (mm 20) (mm 21) (mm 22) (mm 23) (mm 24) (mm 25) wd (xs 1) (xs 2) z76 hwd) mp_lkL_258 0 rfl [0, 1] [] rfl rfl rfl rfl rfl ⟨(Nat.le_of_ble_eq_true rfl), (Nat.le_of_ble_eq_true rfl), (Nat.le_of_ble_eq_true rfl), (Nat.le_of_ble_eq_true rfl)⟩ (Nat.le_of_ble_eq_true rfl) (by decide +kernel) (fun v78 w79 h80 => ?_)
    rcases h80 with ⟨rfl, c81, rfl⟩ | ⟨rfl, c82, c83, rfl⟩ | ⟨rfl, c84, c85, rfl⟩
    · skip
      have c81 : (xs 1).toInt < 0 := c81
      exfalso; omega
    · skip
      have c82 : 0 ≤ (xs 1).toInt := c82
      have c83 : 3 < (xs 1).toInt := c83
      show mp_W E X 4 2151 [(3, .int 0), (2, .ref q2), (1, .ref q1), (0, .ref b)] [.int (-2), .int (-2)] [] 84 11441
      refine mp_run hF mp_tabL_ok [mp_h (.if_icmp .eq 68) [2219]] (by decide +kernel) ?_
      refine And.intro (fun _ => ?_) (fun c86 => absurd c86 (by decide))
      show mp_W E X 4 2219 [(3, .int 0), (2, .ref q2), (1, .ref q1), (0, .ref b)] [] [] 84 11441
      exact mp_sub [3, 0] rfl [] rfl rfl (mp_lw_next hL (Nat.le_of_ble_eq_true rfl) (Nat.le_of_ble_eq_true rfl))
    · skip
      have c84 : 0 ≤ (xs 1).toInt := c84
      have c85 : (xs 1).toInt ≤ 3 := c85
      exfalso; omega
  · skip
    have c27 : 0 ≤ (xs 1).toInt := c27
    have c28 : (xs 1).toInt < 4 := c28
    show mp_W E X 4 2117 [(3, .int 0), (2, .ref q2), (1, .ref q1), (0, .ref b)] [.int (-6)] [(q2, .inr (10, [.int 0, .ref (mm 1), .ref (mm 2), .ref (mm 3), .ref (mm 4), .ref (mm 5), .int 0, .int 0, .int 0, .int 0, .int 0, .long 0, .int 0, .int 0, .int 0, .int (-1), .ref (mm 6), .ref (mm 7), .ref (mm 8), .ref (mm 9), .ref (mm 10), .ref (mm 11), .ref (mm 12), .ref (mm 13), .int 0, .ref (mm 14), .ref (mm 15), .ref (mm 16), .ref (mm 17), .int 0, .int 0, .int 0, .ref (mm 18), .ref (mm 19), .int 0, .int 0, .ref (mm 20), .ref (mm 21), .ref (mm 22), .int 0, .int 0, .int 0, .int 0, .ref (mm 23), .ref (mm 24), .ref (mm 25), .int 0])), ((mm 1), .inl (E.2.2 0, 4, .inl wd))] 84 11441
    refine mp_run hF mp_tabL_ok [mp_i (.aload_n 2), mp_i (.aload_n 0), mp_i (.iload_n 3), mp_c (.iconst 1) 1, mp_i .iadd] (by decide +kernel) ?_
    intro z87 h88
    obtain rfl : z87 = 1 := h88.trans (by decide)
    show mp_W E X 4 2122 [(3, .int 0), (2, .ref q2), (1, .ref q1), (0, .ref b)] [.int 1, .ref b, .ref q2, .int (-6)] [(q2, .inr (10, [.int 0, .ref (mm 1), .ref (mm 2), .ref (mm 3), .ref (mm 4), .ref (mm 5), .int 0, .int 0, .int 0, .int 0, .int 0, .long 0, .int 0, .int 0, .int 0, .int (-1), .ref (mm 6), .ref (mm 7), .ref (mm 8), .ref (mm 9), .ref (mm 10), .ref (mm 11), .ref (mm 12), .ref (mm 13), .int 0, .ref (mm 14), .ref (mm 15), .ref (mm 16), .ref (mm 17), .int 0, .int 0, .int 0, .ref (mm 18), .ref (mm 19), .int 0, .int 0, .ref (mm 20), .ref (mm 21), .ref (mm 22), .int 0, .int 0, .int 0, .int 0, .ref (mm 23), .ref (mm 24), .ref (mm 25), .int 0])), ((mm 1), .inl (E.2.2 0, 4, .inl wd))] 84 11441
    refine mp_lsld hL 1 (by decide) (by decide) (by decide) (by decide +kernel) ?_
    show mp_W E X 4 2123 [(3, .int 0), (2, .ref q2), (1, .ref q1), (0, .ref b)] [.int (xs 1), .ref q2, .int (-6)] [(q2, .inr (10, [.int 0, .ref (mm 1), .ref (mm 2), .ref (mm 3), .ref (mm 4), .ref (mm 5), .int 0, .int 0, .int 0, .int 0, .int 0, .long 0, .int 0, .int 0, .int 0, .int (-1), .ref (mm 6), .ref (mm 7), .ref (mm 8), .ref (mm 9), .ref (mm 10), .ref (mm 11), .ref (mm 12), .ref (mm 13), .int 0, .ref (mm 14), .ref (mm 15), .ref (mm 16), .ref (mm 17), .int 0, .int 0, .int 0, .ref (mm 18), .ref (mm 19), .int 0, .int 0, .ref (mm 20), .ref (mm 21), .ref (mm 22), .int 0, .int 0, .int 0, .int 0, .ref (mm 23), .ref (mm 24), .ref (mm 25), .int 0])), ((mm 1), .inl (E.2.2 0, 4, .inl wd))] 84 11441
    refine mp_run hF mp_tabL_ok [mp_i (.aload_n 0), mp_i (.iload_n 3), mp_c (.iconst 2) 2, mp_i .iadd] (by decide +kernel) ?_
    intro z89 h90
    obtain rfl : z89 = 2 := h90.trans (by decide)
    show mp_W E X 4 2127 [(3, .int 0), (2, .ref q2), (1, .ref q1), (0, .ref b)] [.int 2, .ref b, .int (xs 1), .ref q2, .int (-6)] [(q2, .inr (10, [.int 0, .ref (mm 1), .ref (mm 2), .ref (mm 3), .ref (mm 4), .ref (mm 5), .int 0, .int 0, .int 0, .int 0, .int 0, .long 0, .int 0, .int 0, .int 0, .int (-1), .ref (mm 6), .ref (mm 7), .ref (mm 8), .ref (mm 9), .ref (mm 10), .ref (mm 11), .ref (mm 12), .ref (mm 13), .int 0, .ref (mm 14), .ref (mm 15), .ref (mm 16), .ref (mm 17), .int 0, .int 0, .int 0, .ref (mm 18), .ref (mm 19), .int 0, .int 0, .ref (mm 20), .ref (mm 21), .ref (mm 22), .int 0, .int 0, .int 0, .int 0, .ref (mm 23), .ref (mm 24), .ref (mm 25), .int 0])), ((mm 1), .inl (E.2.2 0, 4, .inl wd))] 84 11441
    refine mp_lsld hL 2 (by decide) (by decide) (by decide) (by decide +kernel) ?_
    show mp_W E X 4 2128 [(3, .int 0), (2, .ref q2), (1, .ref q1), (0, .ref b)] [.int (xs 2), .int (xs 1), .ref q2, .int (-6)] [(q2, .inr (10, [.int 0, .ref (mm 1), .ref (mm 2), .ref (mm 3), .ref (mm 4), .ref (mm 5), .int 0, .int 0, .int 0, .int 0, .int 0, .long 0, .int 0, .int 0, .int 0, .int (-1), .ref (mm 6), .ref (mm 7), .ref (mm 8), .ref (mm 9), .ref (mm 10), .ref (mm 11), .ref (mm 12), .ref (mm 13), .int 0, .ref (mm 14), .ref (mm 15), .ref (mm 16), .ref (mm 17), .int 0, .int 0, .int 0, .ref (mm 18), .ref (mm 19), .int 0, .int 0, .ref (mm 20), .ref (mm 21), .ref (mm 22), .int 0, .int 0, .int 0, .int 0, .ref (mm 23), .ref (mm 24), .ref (mm 25), .int 0])), ((mm 1), .inl (E.2.2 0, 4, .inl wd))] 84 11441
    refine mp_run hF mp_tabL_ok [mp_i (.aload_n 0), mp_i (.iload_n 3), mp_c (.iconst 3) 3, mp_i .iadd] (by decide +kernel) ?_
    intro z91 h92
    obtain rfl : z91 = 3 := h92.trans (by decide)
    show mp_W E X 4 2132 [(3, .int 0), (2, .ref q2), (1, .ref q1), (0, .ref b)] [.int 3, .ref b, .int (xs 2), .int (xs 1), .ref q2, .int (-6)] [(q2, .inr (10, [.int 0, .ref (mm 1), .ref (mm 2), .ref (mm 3), .ref (mm 4), .ref (mm 5), .int 0, .int 0, .int 0, .int 0, .int 0, .long 0, .int 0, .int 0, .int 0, .int (-1), .ref (mm 6), .ref (mm 7), .ref (mm 8), .ref (mm 9), .ref (mm 10), .ref (mm 11), .ref (mm 12), .ref (mm 13), .int 0, .ref (mm 14), .ref (mm 15), .ref (mm 16), .ref (mm 17), .int 0, .int 0, .int 0, .ref (mm 18), .ref (mm 19), .int 0, .int 0, .ref (mm 20), .ref (mm 21), .ref (mm 22), .int 0, .int 0, .int 0, .int 0, .ref (mm 23), .ref (mm 24), .ref (mm 25), .int 0])), ((mm 1), .inl (E.2.2 0, 4, .inl wd))] 84 11441
    refine mp_lsld hL 3 (by decide) (by decide) (by decide) (by decide +kernel) ?_
    show mp_W E X 4 2133 [(3, .int 0), (2, .ref q2), (1, .ref q1), (0, .ref b)] [.int (xs 3), .int (xs 2), .int (xs 1), .ref q2, .int (-6)] [(q2, .inr (10, [.int 0, .ref (mm 1), .ref (mm 2), .ref (mm 3), .ref (mm 4), .ref (mm 5), .int 0, .int 0, .int 0, .int 0, .int 0, .long 0, .int 0, .int 0, .int 0, .int (-1), .ref (mm 6), .ref (mm 7), .ref (mm 8), .ref (mm 9), .ref (mm 10), .ref (mm 11), .ref (mm 12), .ref (mm 13), .int 0, .ref (mm 14), .ref (mm 15), .ref (mm 16), .ref (mm 17), .int 0, .int 0, .int 0, .ref (mm 18), .ref (mm 19), .int 0, .int 0, .ref (mm 20), .ref (mm 21), .ref (mm 22), .int 0, .int 0, .int 0, .int 0, .ref (mm 23), .ref (mm 24), .ref (mm 25), .int 0])), ((mm 1), .inl (E.2.2 0, 4, .inl wd))] 84 11441
    refine mp_run hF mp_tabL_ok [mp_i .i2l, mp_c (.bipush 32) 32, mp_i .lshl, mp_i (.aload_n 0), mp_i (.iload_n 3), mp_c (.iconst 4) 4, mp_i .iadd] (by decide +kernel) ?_
    intro z93 h94
    have e95 : z93.toInt = (xs 3).toInt := mp_i2l h94
    intro z96 h97
    intro z98 h99
    obtain rfl : z98 = 4 := h99.trans (by decide)
    show mp_W E X 4 2141 [(3, .int 0), (2, .ref q2), (1, .ref q1), (0, .ref b)] [.int 4, .ref b, .long z96, .int (xs 2), .int (xs 1), .ref q2, .int (-6)] [(q2, .inr (10, [.int 0, .ref (mm 1), .ref (mm 2), .ref (mm 3), .ref (mm 4), .ref (mm 5), .int 0, .int 0, .int 0, .int 0, .int 0, .long 0, .int 0, .int 0, .int 0, .int (-1), .ref (mm 6), .ref (mm 7), .ref (mm 8), .ref (mm 9), .ref (mm 10), .ref (mm 11), .ref (mm 12), .ref (mm 13), .int 0, .ref (mm 14), .ref (mm 15), .ref (mm 16), .ref (mm 17), .int 0, .int 0, .int 0, .ref (mm 18), .ref (mm 19), .int 0, .int 0, .ref (mm 20), .ref (mm 21), .ref (mm 22), .int 0, .int 0, .int 0, .int 0, .ref (mm 23), .ref (mm 24), .ref (mm 25), .int 0])), ((mm 1), .inl (E.2.2 0, 4, .inl wd))] 84 11441
    refine mp_lsld hL 4 (by decide) (by decide) (by decide) (by decide +kernel) ?_
    show mp_W E X 4 2142 [(3, .int 0), (2, .ref q2), (1, .ref q1), (0, .ref b)] [.int (xs 4), .long z96, .int (xs 2), .int (xs 1), .ref q2, .int (-6)] [(q2, .inr (10, [.int 0, .ref (mm 1), .ref (mm 2), .ref (mm 3), .ref (mm 4), .ref (mm 5), .int 0, .int 0, .int 0, .int 0, .int 0, .long 0, .int 0, .int 0, .int 0, .int (-1), .ref (mm 6), .ref (mm 7), .ref (mm 8), .ref (mm 9), .ref (mm 10), .ref (mm 11), .ref (mm 12), .ref (mm 13), .int 0, .ref (mm 14), .ref (mm 15), .ref (mm 16), .ref (mm 17), .int 0, .int 0, .int 0, .ref (mm 18), .ref (mm 19), .int 0, .int 0, .ref (mm 20), .ref (mm 21), .ref (mm 22), .int 0, .int 0, .int 0, .int 0, .ref (mm 23), .ref (mm 24), .ref (mm 25), .int 0])), ((mm 1), .inl (E.2.2 0, 4, .inl wd))] 84 11441
    refine mp_run hF mp_tabL_ok [mp_i .i2l, mp_cl (.ldc2_w 252) 4294967295, mp_i .land, mp_i .lor] (by decide +kernel) ?_
    intro z100 h101
    have e102 : z100.toInt = (xs 4).toInt := mp_i2l h101
    intro z103 h104
    intro z105 h106
    show mp_W E X 4 2148 [(3, .int 0), (2, .ref q2), (1, .ref q1), (0, .ref b)] [.long z105, .int (xs 2), .int (xs 1), .ref q2, .int (-6)] [(q2, .inr (10, [.int 0, .ref (mm 1), .ref (mm 2), .ref (mm 3), .ref (mm 4), .ref (mm 5), .int 0, .int 0, .int 0, .int 0, .int 0, .long 0, .int 0, .int 0, .int 0, .int (-1), .ref (mm 6), .ref (mm 7), .ref (mm 8), .ref (mm 9), .ref (mm 10), .ref (mm 11), .ref (mm 12), .ref (mm 13), .int 0, .ref (mm 14), .ref (mm 15), .ref (mm 16), .ref (mm 17), .int 0, .int 0, .int 0, .ref (mm 18), .ref (mm 19), .int 0, .int 0, .ref (mm 20), .ref (mm 21), .ref (mm 22), .int 0, .int 0, .int 0, .int 0, .ref (mm 23), .ref (mm 24), .ref (mm 25), .int 0])), ((mm 1), .inl (E.2.2 0, 4, .inl wd))] 84 11441
    refine mp_callV hF (As := [.int (xs 1), .int (xs 2), .long z105]) (rest := [.int (-6)]) (wr := []) (aX10_write_195 E q2 (mm 1) (mm 2) (mm 3) (mm 4) (mm 5) (mm 6) (mm 7) (mm 8) (mm 9) (mm 10) (mm 11) (mm 12) (mm 13) (mm 14) (mm 15) (mm 16) (mm 17) (mm 18) (mm 19) (mm 20) (mm 21) (mm 22) (mm 23) (mm 24) (mm 25) wd (xs 1) (xs 2) z105 hwd) mp_lkL_258 0 rfl [0, 1] [] rfl rfl rfl rfl rfl ⟨(Nat.le_of_ble_eq_true rfl), (Nat.le_of_ble_eq_true rfl), (Nat.le_of_ble_eq_true rfl), (Nat.le_of_ble_eq_true rfl)⟩ (Nat.le_of_ble_eq_true rfl) (by decide +kernel) (fun v107 w108 h109 => ?_)
    rcases h109 with ⟨rfl, c110, rfl⟩ | ⟨rfl, c111, c112, rfl⟩ | ⟨rfl, c113, c114, rfl⟩
    · skip
      have c110 : (xs 1).toInt < 0 := c110
      exfalso; omega
    · skip
      have c111 : 0 ≤ (xs 1).toInt := c111
      have c112 : 3 < (xs 1).toInt := c112
      exfalso; omega
    · skip
      have c113 : 0 ≤ (xs 1).toInt := c113
      have c114 : (xs 1).toInt ≤ 3 := c114
      show mp_W E X 4 2151 [(3, .int 0), (2, .ref q2), (1, .ref q1), (0, .ref b)] [.int (-6), .int (-6)] [] 84 11441
      refine mp_run hF mp_tabL_ok [mp_h (.if_icmp .eq 68) [2219]] (by decide +kernel) ?_
      refine And.intro (fun _ => ?_) (fun c115 => absurd c115 (by decide))
      show mp_W E X 4 2219 [(3, .int 0), (2, .ref q2), (1, .ref q1), (0, .ref b)] [] [] 84 11441
      exact mp_sub [3, 0] rfl [] rfl rfl (mp_lw_next hL (Nat.le_of_ble_eq_true rfl) (Nat.le_of_ble_eq_true rfl))

set_option maxHeartbeats 4000000 in
set_option maxRecDepth 100000 in
theorem mp_case_59 {E : mp_E} {X : mp_X} {b : Nat} {xs : Nat → Int32} (hL : mp_Lw E X b 6 xs) (q1 q2 : Nat) (bb mm : Nat → Nat) (vs ln wd : Nat → Int32) (hln : ∀ j, j < 4 → ln j = -1) (hwd : ∀ j, j < 4 → wd j = -1) : mp_W E X 4 2156 [(3, .int 0), (2, .ref q2), (1, .ref q1), (0, .ref b)] [] (mp_w0 E q1 q2 bb mm vs ln wd) 84 11441 := by
  have hF : mp_F E X (RL, code, 4, (2048, 600000, 7302250, 84000), ret, false) := hL.1
  show mp_W E X 4 2156 [(3, .int 0), (2, .ref q2), (1, .ref q1), (0, .ref b)] [] (mp_w0 E q1 q2 bb mm vs ln wd) 84 11441
  refine mp_run hF mp_tabL_ok [mp_i (.aload_n 1), mp_i (.aload_n 0), mp_i (.iload_n 3), mp_c (.iconst 1) 1, mp_i .iadd] (by decide +kernel) ?_
  intro z1 h2
  obtain rfl : z1 = 1 := h2.trans (by decide)
  show mp_W E X 4 2161 [(3, .int 0), (2, .ref q2), (1, .ref q1), (0, .ref b)] [.int 1, .ref b, .ref q1] (mp_w0 E q1 q2 bb mm vs ln wd) 84 11441
  refine mp_lsld hL 1 (by decide) (by decide) (by decide) (by decide +kernel) ?_
  show mp_W E X 4 2162 [(3, .int 0), (2, .ref q2), (1, .ref q1), (0, .ref b)] [.int (xs 1), .ref q1] (mp_w0 E q1 q2 bb mm vs ln wd) 84 11441
  refine mp_run hF mp_tabL_ok [mp_i (.aload_n 0), mp_i (.iload_n 3), mp_c (.iconst 2) 2, mp_i .iadd] (by decide +kernel) ?_
  intro z3 h4
  obtain rfl : z3 = 2 := h4.trans (by decide)
  show mp_W E X 4 2166 [(3, .int 0), (2, .ref q2), (1, .ref q1), (0, .ref b)] [.int 2, .ref b, .int (xs 1), .ref q1] (mp_w0 E q1 q2 bb mm vs ln wd) 84 11441
  refine mp_lsld hL 2 (by decide) (by decide) (by decide) (by decide +kernel) ?_
  show mp_W E X 4 2167 [(3, .int 0), (2, .ref q2), (1, .ref q1), (0, .ref b)] [.int (xs 2), .int (xs 1), .ref q1] (mp_w0 E q1 q2 bb mm vs ln wd) 84 11441
  refine mp_run hF mp_tabL_ok [mp_i (.aload_n 0), mp_i (.iload_n 3), mp_c (.iconst 3) 3, mp_i .iadd] (by decide +kernel) ?_
  intro z5 h6
  obtain rfl : z5 = 3 := h6.trans (by decide)
  show mp_W E X 4 2171 [(3, .int 0), (2, .ref q2), (1, .ref q1), (0, .ref b)] [.int 3, .ref b, .int (xs 2), .int (xs 1), .ref q1] (mp_w0 E q1 q2 bb mm vs ln wd) 84 11441
  refine mp_lsld hL 3 (by decide) (by decide) (by decide) (by decide +kernel) ?_
  show mp_W E X 4 2172 [(3, .int 0), (2, .ref q2), (1, .ref q1), (0, .ref b)] [.int (xs 3), .int (xs 2), .int (xs 1), .ref q1] (mp_w0 E q1 q2 bb mm vs ln wd) 84 11441
  refine mp_run hF mp_tabL_ok [mp_i (.aload_n 0), mp_i (.iload_n 3), mp_c (.iconst 4) 4, mp_i .iadd] (by decide +kernel) ?_
  intro z7 h8
  obtain rfl : z7 = 4 := h8.trans (by decide)
  show mp_W E X 4 2176 [(3, .int 0), (2, .ref q2), (1, .ref q1), (0, .ref b)] [.int 4, .ref b, .int (xs 3), .int (xs 2), .int (xs 1), .ref q1] (mp_w0 E q1 q2 bb mm vs ln wd) 84 11441
  refine mp_lsld hL 4 (by decide) (by decide) (by decide) (by decide +kernel) ?_
  show mp_W E X 4 2177 [(3, .int 0), (2, .ref q2), (1, .ref q1), (0, .ref b)] [.int (xs 4), .int (xs 3), .int (xs 2), .int (xs 1), .ref q1] (mp_w0 E q1 q2 bb mm vs ln wd) 84 11441
  refine mp_run hF mp_tabL_ok [mp_i (.aload_n 0), mp_i (.iload_n 3), mp_c (.iconst 5) 5, mp_i .iadd] (by decide +kernel) ?_
  intro z9 h10
  obtain rfl : z9 = 5 := h10.trans (by decide)
  show mp_W E X 4 2181 [(3, .int 0), (2, .ref q2), (1, .ref q1), (0, .ref b)] [.int 5, .ref b, .int (xs 4), .int (xs 3), .int (xs 2), .int (xs 1), .ref q1] (mp_w0 E q1 q2 bb mm vs ln wd) 84 11441
  refine mp_lsld hL 5 (by decide) (by decide) (by decide) (by decide +kernel) ?_
  show mp_W E X 4 2182 [(3, .int 0), (2, .ref q2), (1, .ref q1), (0, .ref b)] [.int (xs 5), .int (xs 4), .int (xs 3), .int (xs 2), .int (xs 1), .ref q1] (mp_w0 E q1 q2 bb mm vs ln wd) 84 11441
  refine mp_callV hF (As := [.int (xs 1), .int (xs 2), .int (xs 3), .int (xs 4), .int (xs 5)]) (rest := []) (wr := [(q2, .inr (10, [.int 0, .ref (mm 1), .ref (mm 2), .ref (mm 3), .ref (mm 4), .ref (mm 5), .int 0, .int 0, .int 0, .int 0, .int 0, .long 0, .int 0, .int 0, .int 0, .int (-1), .ref (mm 6), .ref (mm 7), .ref (mm 8), .ref (mm 9), .ref (mm 10), .ref (mm 11), .ref (mm 12), .ref (mm 13), .int 0, .ref (mm 14), .ref (mm 15), .ref (mm 16), .ref (mm 17), .int 0, .int 0, .int 0, .ref (mm 18), .ref (mm 19), .int 0, .int 0, .ref (mm 20), .ref (mm 21), .ref (mm 22), .int 0, .int 0, .int 0, .int 0, .ref (mm 23), .ref (mm 24), .ref (mm 25), .int 0])), ((mm 1), .inl (E.2.2 0, 4, .inl wd))]) (aX9_paste_196 E q1 (bb 54) (bb 57) (bb 1) (bb 16) (bb 36) (bb 37) (bb 40) (bb 46) (bb 49) (bb 52) (bb 55) (bb 56) ln (xs 1) (xs 2) (xs 3) (xs 4) (xs 5) hln) mp_lkL_259 0 rfl [0, 54, 57] [58, 59] rfl rfl rfl rfl rfl ⟨(Nat.le_of_ble_eq_true rfl), (Nat.le_of_ble_eq_true rfl), (Nat.le_of_ble_eq_true rfl), (Nat.le_of_ble_eq_true rfl)⟩ (Nat.le_of_ble_eq_true rfl) (by decide +kernel) (fun v11 w12 h13 => ?_)
  rcases h13 with ⟨rfl, c14, rfl⟩ | ⟨rfl, c15, c16, rfl⟩ | ⟨rfl, c17, c18, c19, rfl⟩ | ⟨rfl, c20, c21, c22, c23, rfl⟩ | ⟨rfl, c24, c25, c26, c27, rfl⟩
  · skip
    have c14 : (xs 1).toInt < 0 := c14
    show mp_W E X 4 2185 [(3, .int 0), (2, .ref q2), (1, .ref q1), (0, .ref b)] [.int (-2)] [(q2, .inr (10, [.int 0, .ref (mm 1), .ref (mm 2), .ref (mm 3), .ref (mm 4), .ref (mm 5), .int 0, .int 0, .int 0, .int 0, .int 0, .long 0, .int 0, .int 0, .int 0, .int (-1), .ref (mm 6), .ref (mm 7), .ref (mm 8), .ref (mm 9), .ref (mm 10), .ref (mm 11), .ref (mm 12), .ref (mm 13), .int 0, .ref (mm 14), .ref (mm 15), .ref (mm 16), .ref (mm 17), .int 0, .int 0, .int 0, .ref (mm 18), .ref (mm 19), .int 0, .int 0, .ref (mm 20), .ref (mm 21), .ref (mm 22), .int 0, .int 0, .int 0, .int 0, .ref (mm 23), .ref (mm 24), .ref (mm 25), .int 0])), ((mm 1), .inl (E.2.2 0, 4, .inl wd))] 84 11441
    refine mp_run hF mp_tabL_ok [mp_i (.aload_n 2), mp_i (.aload_n 0), mp_i (.iload_n 3), mp_c (.iconst 1) 1, mp_i .iadd] (by decide +kernel) ?_
    intro z28 h29
    obtain rfl : z28 = 1 := h29.trans (by decide)
    show mp_W E X 4 2190 [(3, .int 0), (2, .ref q2), (1, .ref q1), (0, .ref b)] [.int 1, .ref b, .ref q2, .int (-2)] [(q2, .inr (10, [.int 0, .ref (mm 1), .ref (mm 2), .ref (mm 3), .ref (mm 4), .ref (mm 5), .int 0, .int 0, .int 0, .int 0, .int 0, .long 0, .int 0, .int 0, .int 0, .int (-1), .ref (mm 6), .ref (mm 7), .ref (mm 8), .ref (mm 9), .ref (mm 10), .ref (mm 11), .ref (mm 12), .ref (mm 13), .int 0, .ref (mm 14), .ref (mm 15), .ref (mm 16), .ref (mm 17), .int 0, .int 0, .int 0, .ref (mm 18), .ref (mm 19), .int 0, .int 0, .ref (mm 20), .ref (mm 21), .ref (mm 22), .int 0, .int 0, .int 0, .int 0, .ref (mm 23), .ref (mm 24), .ref (mm 25), .int 0])), ((mm 1), .inl (E.2.2 0, 4, .inl wd))] 84 11441
    refine mp_lsld hL 1 (by decide) (by decide) (by decide) (by decide +kernel) ?_
    show mp_W E X 4 2191 [(3, .int 0), (2, .ref q2), (1, .ref q1), (0, .ref b)] [.int (xs 1), .ref q2, .int (-2)] [(q2, .inr (10, [.int 0, .ref (mm 1), .ref (mm 2), .ref (mm 3), .ref (mm 4), .ref (mm 5), .int 0, .int 0, .int 0, .int 0, .int 0, .long 0, .int 0, .int 0, .int 0, .int (-1), .ref (mm 6), .ref (mm 7), .ref (mm 8), .ref (mm 9), .ref (mm 10), .ref (mm 11), .ref (mm 12), .ref (mm 13), .int 0, .ref (mm 14), .ref (mm 15), .ref (mm 16), .ref (mm 17), .int 0, .int 0, .int 0, .ref (mm 18), .ref (mm 19), .int 0, .int 0, .ref (mm 20), .ref (mm 21), .ref (mm 22), .int 0, .int 0, .int 0, .int 0, .ref (mm 23), .ref (mm 24), .ref (mm 25), .int 0])), ((mm 1), .inl (E.2.2 0, 4, .inl wd))] 84 11441
    refine mp_run hF mp_tabL_ok [mp_i (.aload_n 0), mp_i (.iload_n 3), mp_c (.iconst 2) 2, mp_i .iadd] (by decide +kernel) ?_
    intro z30 h31
    obtain rfl : z30 = 2 := h31.trans (by decide)
    show mp_W E X 4 2195 [(3, .int 0), (2, .ref q2), (1, .ref q1), (0, .ref b)] [.int 2, .ref b, .int (xs 1), .ref q2, .int (-2)] [(q2, .inr (10, [.int 0, .ref (mm 1), .ref (mm 2), .ref (mm 3), .ref (mm 4), .ref (mm 5), .int 0, .int 0, .int 0, .int 0, .int 0, .long 0, .int 0, .int 0, .int 0, .int (-1), .ref (mm 6), .ref (mm 7), .ref (mm 8), .ref (mm 9), .ref (mm 10), .ref (mm 11), .ref (mm 12), .ref (mm 13), .int 0, .ref (mm 14), .ref (mm 15), .ref (mm 16), .ref (mm 17), .int 0, .int 0, .int 0, .ref (mm 18), .ref (mm 19), .int 0, .int 0, .ref (mm 20), .ref (mm 21), .ref (mm 22), .int 0, .int 0, .int 0, .int 0, .ref (mm 23), .ref (mm 24), .ref (mm 25), .int 0])), ((mm 1), .inl (E.2.2 0, 4, .inl wd))] 84 11441
    refine mp_lsld hL 2 (by decide) (by decide) (by decide) (by decide +kernel) ?_
    show mp_W E X 4 2196 [(3, .int 0), (2, .ref q2), (1, .ref q1), (0, .ref b)] [.int (xs 2), .int (xs 1), .ref q2, .int (-2)] [(q2, .inr (10, [.int 0, .ref (mm 1), .ref (mm 2), .ref (mm 3), .ref (mm 4), .ref (mm 5), .int 0, .int 0, .int 0, .int 0, .int 0, .long 0, .int 0, .int 0, .int 0, .int (-1), .ref (mm 6), .ref (mm 7), .ref (mm 8), .ref (mm 9), .ref (mm 10), .ref (mm 11), .ref (mm 12), .ref (mm 13), .int 0, .ref (mm 14), .ref (mm 15), .ref (mm 16), .ref (mm 17), .int 0, .int 0, .int 0, .ref (mm 18), .ref (mm 19), .int 0, .int 0, .ref (mm 20), .ref (mm 21), .ref (mm 22), .int 0, .int 0, .int 0, .int 0, .ref (mm 23), .ref (mm 24), .ref (mm 25), .int 0])), ((mm 1), .inl (E.2.2 0, 4, .inl wd))] 84 11441
    refine mp_run hF mp_tabL_ok [mp_i (.aload_n 0), mp_i (.iload_n 3), mp_c (.iconst 3) 3, mp_i .iadd] (by decide +kernel) ?_
    intro z32 h33
    obtain rfl : z32 = 3 := h33.trans (by decide)
    show mp_W E X 4 2200 [(3, .int 0), (2, .ref q2), (1, .ref q1), (0, .ref b)] [.int 3, .ref b, .int (xs 2), .int (xs 1), .ref q2, .int (-2)] [(q2, .inr (10, [.int 0, .ref (mm 1), .ref (mm 2), .ref (mm 3), .ref (mm 4), .ref (mm 5), .int 0, .int 0, .int 0, .int 0, .int 0, .long 0, .int 0, .int 0, .int 0, .int (-1), .ref (mm 6), .ref (mm 7), .ref (mm 8), .ref (mm 9), .ref (mm 10), .ref (mm 11), .ref (mm 12), .ref (mm 13), .int 0, .ref (mm 14), .ref (mm 15), .ref (mm 16), .ref (mm 17), .int 0, .int 0, .int 0, .ref (mm 18), .ref (mm 19), .int 0, .int 0, .ref (mm 20), .ref (mm 21), .ref (mm 22), .int 0, .int 0, .int 0, .int 0, .ref (mm 23), .ref (mm 24), .ref (mm 25), .int 0])), ((mm 1), .inl (E.2.2 0, 4, .inl wd))] 84 11441
    refine mp_lsld hL 3 (by decide) (by decide) (by decide) (by decide +kernel) ?_
    show mp_W E X 4 2201 [(3, .int 0), (2, .ref q2), (1, .ref q1), (0, .ref b)] [.int (xs 3), .int (xs 2), .int (xs 1), .ref q2, .int (-2)] [(q2, .inr (10, [.int 0, .ref (mm 1), .ref (mm 2), .ref (mm 3), .ref (mm 4), .ref (mm 5), .int 0, .int 0, .int 0, .int 0, .int 0, .long 0, .int 0, .int 0, .int 0, .int (-1), .ref (mm 6), .ref (mm 7), .ref (mm 8), .ref (mm 9), .ref (mm 10), .ref (mm 11), .ref (mm 12), .ref (mm 13), .int 0, .ref (mm 14), .ref (mm 15), .ref (mm 16), .ref (mm 17), .int 0, .int 0, .int 0, .ref (mm 18), .ref (mm 19), .int 0, .int 0, .ref (mm 20), .ref (mm 21), .ref (mm 22), .int 0, .int 0, .int 0, .int 0, .ref (mm 23), .ref (mm 24), .ref (mm 25), .int 0])), ((mm 1), .inl (E.2.2 0, 4, .inl wd))] 84 11441
    refine mp_run hF mp_tabL_ok [mp_i (.aload_n 0), mp_i (.iload_n 3), mp_c (.iconst 4) 4, mp_i .iadd] (by decide +kernel) ?_
    intro z34 h35
    obtain rfl : z34 = 4 := h35.trans (by decide)
    show mp_W E X 4 2205 [(3, .int 0), (2, .ref q2), (1, .ref q1), (0, .ref b)] [.int 4, .ref b, .int (xs 3), .int (xs 2), .int (xs 1), .ref q2, .int (-2)] [(q2, .inr (10, [.int 0, .ref (mm 1), .ref (mm 2), .ref (mm 3), .ref (mm 4), .ref (mm 5), .int 0, .int 0, .int 0, .int 0, .int 0, .long 0, .int 0, .int 0, .int 0, .int (-1), .ref (mm 6), .ref (mm 7), .ref (mm 8), .ref (mm 9), .ref (mm 10), .ref (mm 11), .ref (mm 12), .ref (mm 13), .int 0, .ref (mm 14), .ref (mm 15), .ref (mm 16), .ref (mm 17), .int 0, .int 0, .int 0, .ref (mm 18), .ref (mm 19), .int 0, .int 0, .ref (mm 20), .ref (mm 21), .ref (mm 22), .int 0, .int 0, .int 0, .int 0, .ref (mm 23), .ref (mm 24), .ref (mm 25), .int 0])), ((mm 1), .inl (E.2.2 0, 4, .inl wd))] 84 11441
    refine mp_lsld hL 4 (by decide) (by decide) (by decide) (by decide +kernel) ?_
    show mp_W E X 4 2206 [(3, .int 0), (2, .ref q2), (1, .ref q1), (0, .ref b)] [.int (xs 4), .int (xs 3), .int (xs 2), .int (xs 1), .ref q2, .int (-2)] [(q2, .inr (10, [.int 0, .ref (mm 1), .ref (mm 2), .ref (mm 3), .ref (mm 4), .ref (mm 5), .int 0, .int 0, .int 0, .int 0, .int 0, .long 0, .int 0, .int 0, .int 0, .int (-1), .ref (mm 6), .ref (mm 7), .ref (mm 8), .ref (mm 9), .ref (mm 10), .ref (mm 11), .ref (mm 12), .ref (mm 13), .int 0, .ref (mm 14), .ref (mm 15), .ref (mm 16), .ref (mm 17), .int 0, .int 0, .int 0, .ref (mm 18), .ref (mm 19), .int 0, .int 0, .ref (mm 20), .ref (mm 21), .ref (mm 22), .int 0, .int 0, .int 0, .int 0, .ref (mm 23), .ref (mm 24), .ref (mm 25), .int 0])), ((mm 1), .inl (E.2.2 0, 4, .inl wd))] 84 11441
    refine mp_run hF mp_tabL_ok [mp_i (.aload_n 0), mp_i (.iload_n 3), mp_c (.iconst 5) 5, mp_i .iadd] (by decide +kernel) ?_
    intro z36 h37
    obtain rfl : z36 = 5 := h37.trans (by decide)
    show mp_W E X 4 2210 [(3, .int 0), (2, .ref q2), (1, .ref q1), (0, .ref b)] [.int 5, .ref b, .int (xs 4), .int (xs 3), .int (xs 2), .int (xs 1), .ref q2, .int (-2)] [(q2, .inr (10, [.int 0, .ref (mm 1), .ref (mm 2), .ref (mm 3), .ref (mm 4), .ref (mm 5), .int 0, .int 0, .int 0, .int 0, .int 0, .long 0, .int 0, .int 0, .int 0, .int (-1), .ref (mm 6), .ref (mm 7), .ref (mm 8), .ref (mm 9), .ref (mm 10), .ref (mm 11), .ref (mm 12), .ref (mm 13), .int 0, .ref (mm 14), .ref (mm 15), .ref (mm 16), .ref (mm 17), .int 0, .int 0, .int 0, .ref (mm 18), .ref (mm 19), .int 0, .int 0, .ref (mm 20), .ref (mm 21), .ref (mm 22), .int 0, .int 0, .int 0, .int 0, .ref (mm 23), .ref (mm 24), .ref (mm 25), .int 0])), ((mm 1), .inl (E.2.2 0, 4, .inl wd))] 84 11441
    refine mp_lsld hL 5 (by decide) (by decide) (by decide) (by decide +kernel) ?_
    show mp_W E X 4 2211 [(3, .int 0), (2, .ref q2), (1, .ref q1), (0, .ref b)] [.int (xs 5), .int (xs 4), .int (xs 3), .int (xs 2), .int (xs 1), .ref q2, .int (-2)] [(q2, .inr (10, [.int 0, .ref (mm 1), .ref (mm 2), .ref (mm 3), .ref (mm 4), .ref (mm 5), .int 0, .int 0, .int 0, .int 0, .int 0, .long 0, .int 0, .int 0, .int 0, .int (-1), .ref (mm 6), .ref (mm 7), .ref (mm 8), .ref (mm 9), .ref (mm 10), .ref (mm 11), .ref (mm 12), .ref (mm 13), .int 0, .ref (mm 14), .ref (mm 15), .ref (mm 16), .ref (mm 17), .int 0, .int 0, .int 0, .ref (mm 18), .ref (mm 19), .int 0, .int 0, .ref (mm 20), .ref (mm 21), .ref (mm 22), .int 0, .int 0, .int 0, .int 0, .ref (mm 23), .ref (mm 24), .ref (mm 25), .int 0])), ((mm 1), .inl (E.2.2 0, 4, .inl wd))] 84 11441
    refine mp_callV hF (As := [.int (xs 1), .int (xs 2), .int (xs 3), .int (xs 4), .int (xs 5)]) (rest := [.int (-2)]) (wr := []) (aX10_paste_197 E q2 (mm 1) (mm 2) (mm 3) (mm 4) (mm 5) (mm 6) (mm 7) (mm 8) (mm 9) (mm 10) (mm 11) (mm 12) (mm 13) (mm 14) (mm 15) (mm 16) (mm 17) (mm 18) (mm 19) (mm 20) (mm 21) (mm 22) (mm 23) (mm 24) (mm 25) wd (xs 1) (xs 2) (xs 3) (xs 4) (xs 5) hwd) mp_lkL_262 0 rfl [0, 1] [] rfl rfl rfl rfl rfl ⟨(Nat.le_of_ble_eq_true rfl), (Nat.le_of_ble_eq_true rfl), (Nat.le_of_ble_eq_true rfl), (Nat.le_of_ble_eq_true rfl)⟩ (Nat.le_of_ble_eq_true rfl) (by decide +kernel) (fun v38 w39 h40 => ?_)
    rcases h40 with ⟨rfl, c41, rfl⟩ | ⟨rfl, c42, c43, rfl⟩ | ⟨rfl, c44, c45, c46, rfl⟩ | ⟨rfl, c47, c48, c49, c50, rfl⟩ | ⟨rfl, c51, c52, c53, c54, rfl⟩
    · skip
      have c41 : (xs 1).toInt < 0 := c41
      show mp_W E X 4 2214 [(3, .int 0), (2, .ref q2), (1, .ref q1), (0, .ref b)] [.int (-2), .int (-2)] [] 84 11441
      refine mp_run hF mp_tabL_ok [mp_h (.if_icmp .eq 5) [2219]] (by decide +kernel) ?_
      refine And.intro (fun _ => ?_) (fun c55 => absurd c55 (by decide))
      show mp_W E X 4 2219 [(3, .int 0), (2, .ref q2), (1, .ref q1), (0, .ref b)] [] [] 84 11441
      exact mp_sub [3, 0] rfl [] rfl rfl (mp_lw_next hL (Nat.le_of_ble_eq_true rfl) (Nat.le_of_ble_eq_true rfl))
    · skip
      have c42 : 0 ≤ (xs 1).toInt := c42
      have c43 : 3 < (xs 1).toInt := c43
      exfalso; omega
    · skip
      have c44 : 0 ≤ (xs 1).toInt := c44
      have c45 : (xs 1).toInt ≤ 3 := c45
      have c46 : (xs 3).toInt < 0 := c46
      exfalso; omega
    · skip
      have c47 : 0 ≤ (xs 1).toInt := c47
      have c48 : (xs 1).toInt ≤ 3 := c48
      have c49 : 0 ≤ (xs 3).toInt := c49
      have c50 : 3 < (xs 3).toInt := c50
      exfalso; omega
    · skip
      have c51 : 0 ≤ (xs 1).toInt := c51
      have c52 : (xs 1).toInt ≤ 3 := c52
      have c53 : 0 ≤ (xs 3).toInt := c53
      have c54 : (xs 3).toInt ≤ 3 := c54
      exfalso; omega
  · skip
    have c15 : 0 ≤ (xs 1).toInt := c15
    have c16 : 4 ≤ (xs 1).toInt := c16
    show mp_W E X 4 2185 [(3, .int 0), (2, .ref q2), (1, .ref q1), (0, .ref b)] [.int (-2)] [(q2, .inr (10, [.int 0, .ref (mm 1), .ref (mm 2), .ref (mm 3), .ref (mm 4), .ref (mm 5), .int 0, .int 0, .int 0, .int 0, .int 0, .long 0, .int 0, .int 0, .int 0, .int (-1), .ref (mm 6), .ref (mm 7), .ref (mm 8), .ref (mm 9), .ref (mm 10), .ref (mm 11), .ref (mm 12), .ref (mm 13), .int 0, .ref (mm 14), .ref (mm 15), .ref (mm 16), .ref (mm 17), .int 0, .int 0, .int 0, .ref (mm 18), .ref (mm 19), .int 0, .int 0, .ref (mm 20), .ref (mm 21), .ref (mm 22), .int 0, .int 0, .int 0, .int 0, .ref (mm 23), .ref (mm 24), .ref (mm 25), .int 0])), ((mm 1), .inl (E.2.2 0, 4, .inl wd))] 84 11441
    refine mp_run hF mp_tabL_ok [mp_i (.aload_n 2), mp_i (.aload_n 0), mp_i (.iload_n 3), mp_c (.iconst 1) 1, mp_i .iadd] (by decide +kernel) ?_
    intro z56 h57
    obtain rfl : z56 = 1 := h57.trans (by decide)
    show mp_W E X 4 2190 [(3, .int 0), (2, .ref q2), (1, .ref q1), (0, .ref b)] [.int 1, .ref b, .ref q2, .int (-2)] [(q2, .inr (10, [.int 0, .ref (mm 1), .ref (mm 2), .ref (mm 3), .ref (mm 4), .ref (mm 5), .int 0, .int 0, .int 0, .int 0, .int 0, .long 0, .int 0, .int 0, .int 0, .int (-1), .ref (mm 6), .ref (mm 7), .ref (mm 8), .ref (mm 9), .ref (mm 10), .ref (mm 11), .ref (mm 12), .ref (mm 13), .int 0, .ref (mm 14), .ref (mm 15), .ref (mm 16), .ref (mm 17), .int 0, .int 0, .int 0, .ref (mm 18), .ref (mm 19), .int 0, .int 0, .ref (mm 20), .ref (mm 21), .ref (mm 22), .int 0, .int 0, .int 0, .int 0, .ref (mm 23), .ref (mm 24), .ref (mm 25), .int 0])), ((mm 1), .inl (E.2.2 0, 4, .inl wd))] 84 11441
    refine mp_lsld hL 1 (by decide) (by decide) (by decide) (by decide +kernel) ?_
    show mp_W E X 4 2191 [(3, .int 0), (2, .ref q2), (1, .ref q1), (0, .ref b)] [.int (xs 1), .ref q2, .int (-2)] [(q2, .inr (10, [.int 0, .ref (mm 1), .ref (mm 2), .ref (mm 3), .ref (mm 4), .ref (mm 5), .int 0, .int 0, .int 0, .int 0, .int 0, .long 0, .int 0, .int 0, .int 0, .int (-1), .ref (mm 6), .ref (mm 7), .ref (mm 8), .ref (mm 9), .ref (mm 10), .ref (mm 11), .ref (mm 12), .ref (mm 13), .int 0, .ref (mm 14), .ref (mm 15), .ref (mm 16), .ref (mm 17), .int 0, .int 0, .int 0, .ref (mm 18), .ref (mm 19), .int 0, .int 0, .ref (mm 20), .ref (mm 21), .ref (mm 22), .int 0, .int 0, .int 0, .int 0, .ref (mm 23), .ref (mm 24), .ref (mm 25), .int 0])), ((mm 1), .inl (E.2.2 0, 4, .inl wd))] 84 11441
    refine mp_run hF mp_tabL_ok [mp_i (.aload_n 0), mp_i (.iload_n 3), mp_c (.iconst 2) 2, mp_i .iadd] (by decide +kernel) ?_
    intro z58 h59
    obtain rfl : z58 = 2 := h59.trans (by decide)
    show mp_W E X 4 2195 [(3, .int 0), (2, .ref q2), (1, .ref q1), (0, .ref b)] [.int 2, .ref b, .int (xs 1), .ref q2, .int (-2)] [(q2, .inr (10, [.int 0, .ref (mm 1), .ref (mm 2), .ref (mm 3), .ref (mm 4), .ref (mm 5), .int 0, .int 0, .int 0, .int 0, .int 0, .long 0, .int 0, .int 0, .int 0, .int (-1), .ref (mm 6), .ref (mm 7), .ref (mm 8), .ref (mm 9), .ref (mm 10), .ref (mm 11), .ref (mm 12), .ref (mm 13), .int 0, .ref (mm 14), .ref (mm 15), .ref (mm 16), .ref (mm 17), .int 0, .int 0, .int 0, .ref (mm 18), .ref (mm 19), .int 0, .int 0, .ref (mm 20), .ref (mm 21), .ref (mm 22), .int 0, .int 0, .int 0, .int 0, .ref (mm 23), .ref (mm 24), .ref (mm 25), .int 0])), ((mm 1), .inl (E.2.2 0, 4, .inl wd))] 84 11441
    refine mp_lsld hL 2 (by decide) (by decide) (by decide) (by decide +kernel) ?_
    show mp_W E X 4 2196 [(3, .int 0), (2, .ref q2), (1, .ref q1), (0, .ref b)] [.int (xs 2), .int (xs 1), .ref q2, .int (-2)] [(q2, .inr (10, [.int 0, .ref (mm 1), .ref (mm 2), .ref (mm 3), .ref (mm 4), .ref (mm 5), .int 0, .int 0, .int 0, .int 0, .int 0, .long 0, .int 0, .int 0, .int 0, .int (-1), .ref (mm 6), .ref (mm 7), .ref (mm 8), .ref (mm 9), .ref (mm 10), .ref (mm 11), .ref (mm 12), .ref (mm 13), .int 0, .ref (mm 14), .ref (mm 15), .ref (mm 16), .ref (mm 17), .int 0, .int 0, .int 0, .ref (mm 18), .ref (mm 19), .int 0, .int 0, .ref (mm 20), .ref (mm 21), .ref (mm 22), .int 0, .int 0, .int 0, .int 0, .ref (mm 23), .ref (mm 24), .ref (mm 25), .int 0])), ((mm 1), .inl (E.2.2 0, 4, .inl wd))] 84 11441
    refine mp_run hF mp_tabL_ok [mp_i (.aload_n 0), mp_i (.iload_n 3), mp_c (.iconst 3) 3, mp_i .iadd] (by decide +kernel) ?_
    intro z60 h61
    obtain rfl : z60 = 3 := h61.trans (by decide)
    show mp_W E X 4 2200 [(3, .int 0), (2, .ref q2), (1, .ref q1), (0, .ref b)] [.int 3, .ref b, .int (xs 2), .int (xs 1), .ref q2, .int (-2)] [(q2, .inr (10, [.int 0, .ref (mm 1), .ref (mm 2), .ref (mm 3), .ref (mm 4), .ref (mm 5), .int 0, .int 0, .int 0, .int 0, .int 0, .long 0, .int 0, .int 0, .int 0, .int (-1), .ref (mm 6), .ref (mm 7), .ref (mm 8), .ref (mm 9), .ref (mm 10), .ref (mm 11), .ref (mm 12), .ref (mm 13), .int 0, .ref (mm 14), .ref (mm 15), .ref (mm 16), .ref (mm 17), .int 0, .int 0, .int 0, .ref (mm 18), .ref (mm 19), .int 0, .int 0, .ref (mm 20), .ref (mm 21), .ref (mm 22), .int 0, .int 0, .int 0, .int 0, .ref (mm 23), .ref (mm 24), .ref (mm 25), .int 0])), ((mm 1), .inl (E.2.2 0, 4, .inl wd))] 84 11441
    refine mp_lsld hL 3 (by decide) (by decide) (by decide) (by decide +kernel) ?_
    show mp_W E X 4 2201 [(3, .int 0), (2, .ref q2), (1, .ref q1), (0, .ref b)] [.int (xs 3), .int (xs 2), .int (xs 1), .ref q2, .int (-2)] [(q2, .inr (10, [.int 0, .ref (mm 1), .ref (mm 2), .ref (mm 3), .ref (mm 4), .ref (mm 5), .int 0, .int 0, .int 0, .int 0, .int 0, .long 0, .int 0, .int 0, .int 0, .int (-1), .ref (mm 6), .ref (mm 7), .ref (mm 8), .ref (mm 9), .ref (mm 10), .ref (mm 11), .ref (mm 12), .ref (mm 13), .int 0, .ref (mm 14), .ref (mm 15), .ref (mm 16), .ref (mm 17), .int 0, .int 0, .int 0, .ref (mm 18), .ref (mm 19), .int 0, .int 0, .ref (mm 20), .ref (mm 21), .ref (mm 22), .int 0, .int 0, .int 0, .int 0, .ref (mm 23), .ref (mm 24), .ref (mm 25), .int 0])), ((mm 1), .inl (E.2.2 0, 4, .inl wd))] 84 11441
    refine mp_run hF mp_tabL_ok [mp_i (.aload_n 0), mp_i (.iload_n 3), mp_c (.iconst 4) 4, mp_i .iadd] (by decide +kernel) ?_
    intro z62 h63
    obtain rfl : z62 = 4 := h63.trans (by decide)
    show mp_W E X 4 2205 [(3, .int 0), (2, .ref q2), (1, .ref q1), (0, .ref b)] [.int 4, .ref b, .int (xs 3), .int (xs 2), .int (xs 1), .ref q2, .int (-2)] [(q2, .inr (10, [.int 0, .ref (mm 1), .ref (mm 2), .ref (mm 3), .ref (mm 4), .ref (mm 5), .int 0, .int 0, .int 0, .int 0, .int 0, .long 0, .int 0, .int 0, .int 0, .int (-1), .ref (mm 6), .ref (mm 7), .ref (mm 8), .ref (mm 9), .ref (mm 10), .ref (mm 11), .ref (mm 12), .ref (mm 13), .int 0, .ref (mm 14), .ref (mm 15), .ref (mm 16), .ref (mm 17), .int 0, .int 0, .int 0, .ref (mm 18), .ref (mm 19), .int 0, .int 0, .ref (mm 20), .ref (mm 21), .ref (mm 22), .int 0, .int 0, .int 0, .int 0, .ref (mm 23), .ref (mm 24), .ref (mm 25), .int 0])), ((mm 1), .inl (E.2.2 0, 4, .inl wd))] 84 11441
    refine mp_lsld hL 4 (by decide) (by decide) (by decide) (by decide +kernel) ?_
    show mp_W E X 4 2206 [(3, .int 0), (2, .ref q2), (1, .ref q1), (0, .ref b)] [.int (xs 4), .int (xs 3), .int (xs 2), .int (xs 1), .ref q2, .int (-2)] [(q2, .inr (10, [.int 0, .ref (mm 1), .ref (mm 2), .ref (mm 3), .ref (mm 4), .ref (mm 5), .int 0, .int 0, .int 0, .int 0, .int 0, .long 0, .int 0, .int 0, .int 0, .int (-1), .ref (mm 6), .ref (mm 7), .ref (mm 8), .ref (mm 9), .ref (mm 10), .ref (mm 11), .ref (mm 12), .ref (mm 13), .int 0, .ref (mm 14), .ref (mm 15), .ref (mm 16), .ref (mm 17), .int 0, .int 0, .int 0, .ref (mm 18), .ref (mm 19), .int 0, .int 0, .ref (mm 20), .ref (mm 21), .ref (mm 22), .int 0, .int 0, .int 0, .int 0, .ref (mm 23), .ref (mm 24), .ref (mm 25), .int 0])), ((mm 1), .inl (E.2.2 0, 4, .inl wd))] 84 11441
    refine mp_run hF mp_tabL_ok [mp_i (.aload_n 0), mp_i (.iload_n 3), mp_c (.iconst 5) 5, mp_i .iadd] (by decide +kernel) ?_
    intro z64 h65
    obtain rfl : z64 = 5 := h65.trans (by decide)
    show mp_W E X 4 2210 [(3, .int 0), (2, .ref q2), (1, .ref q1), (0, .ref b)] [.int 5, .ref b, .int (xs 4), .int (xs 3), .int (xs 2), .int (xs 1), .ref q2, .int (-2)] [(q2, .inr (10, [.int 0, .ref (mm 1), .ref (mm 2), .ref (mm 3), .ref (mm 4), .ref (mm 5), .int 0, .int 0, .int 0, .int 0, .int 0, .long 0, .int 0, .int 0, .int 0, .int (-1), .ref (mm 6), .ref (mm 7), .ref (mm 8), .ref (mm 9), .ref (mm 10), .ref (mm 11), .ref (mm 12), .ref (mm 13), .int 0, .ref (mm 14), .ref (mm 15), .ref (mm 16), .ref (mm 17), .int 0, .int 0, .int 0, .ref (mm 18), .ref (mm 19), .int 0, .int 0, .ref (mm 20), .ref (mm 21), .ref (mm 22), .int 0, .int 0, .int 0, .int 0, .ref (mm 23), .ref (mm 24), .ref (mm 25), .int 0])), ((mm 1), .inl (E.2.2 0, 4, .inl wd))] 84 11441
    refine mp_lsld hL 5 (by decide) (by decide) (by decide) (by decide +kernel) ?_
    show mp_W E X 4 2211 [(3, .int 0), (2, .ref q2), (1, .ref q1), (0, .ref b)] [.int (xs 5), .int (xs 4), .int (xs 3), .int (xs 2), .int (xs 1), .ref q2, .int (-2)] [(q2, .inr (10, [.int 0, .ref (mm 1), .ref (mm 2), .ref (mm 3), .ref (mm 4), .ref (mm 5), .int 0, .int 0, .int 0, .int 0, .int 0, .long 0, .int 0, .int 0, .int 0, .int (-1), .ref (mm 6), .ref (mm 7), .ref (mm 8), .ref (mm 9), .ref (mm 10), .ref (mm 11), .ref (mm 12), .ref (mm 13), .int 0, .ref (mm 14), .ref (mm 15), .ref (mm 16), .ref (mm 17), .int 0, .int 0, .int 0, .ref (mm 18), .ref (mm 19), .int 0, .int 0, .ref (mm 20), .ref (mm 21), .ref (mm 22), .int 0, .int 0, .int 0, .int 0, .ref (mm 23), .ref (mm 24), .ref (mm 25), .int 0])), ((mm 1), .inl (E.2.2 0, 4, .inl wd))] 84 11441
    refine mp_callV hF (As := [.int (xs 1), .int (xs 2), .int (xs 3), .int (xs 4), .int (xs 5)]) (rest := [.int (-2)]) (wr := []) (aX10_paste_197 E q2 (mm 1) (mm 2) (mm 3) (mm 4) (mm 5) (mm 6) (mm 7) (mm 8) (mm 9) (mm 10) (mm 11) (mm 12) (mm 13) (mm 14) (mm 15) (mm 16) (mm 17) (mm 18) (mm 19) (mm 20) (mm 21) (mm 22) (mm 23) (mm 24) (mm 25) wd (xs 1) (xs 2) (xs 3) (xs 4) (xs 5) hwd) mp_lkL_262 0 rfl [0, 1] [] rfl rfl rfl rfl rfl ⟨(Nat.le_of_ble_eq_true rfl), (Nat.le_of_ble_eq_true rfl), (Nat.le_of_ble_eq_true rfl), (Nat.le_of_ble_eq_true rfl)⟩ (Nat.le_of_ble_eq_true rfl) (by decide +kernel) (fun v66 w67 h68 => ?_)
    rcases h68 with ⟨rfl, c69, rfl⟩ | ⟨rfl, c70, c71, rfl⟩ | ⟨rfl, c72, c73, c74, rfl⟩ | ⟨rfl, c75, c76, c77, c78, rfl⟩ | ⟨rfl, c79, c80, c81, c82, rfl⟩
    · skip
      have c69 : (xs 1).toInt < 0 := c69
      exfalso; omega
    · skip
      have c70 : 0 ≤ (xs 1).toInt := c70
      have c71 : 3 < (xs 1).toInt := c71
      show mp_W E X 4 2214 [(3, .int 0), (2, .ref q2), (1, .ref q1), (0, .ref b)] [.int (-2), .int (-2)] [] 84 11441
      refine mp_run hF mp_tabL_ok [mp_h (.if_icmp .eq 5) [2219]] (by decide +kernel) ?_
      refine And.intro (fun _ => ?_) (fun c83 => absurd c83 (by decide))
      show mp_W E X 4 2219 [(3, .int 0), (2, .ref q2), (1, .ref q1), (0, .ref b)] [] [] 84 11441
      exact mp_sub [3, 0] rfl [] rfl rfl (mp_lw_next hL (Nat.le_of_ble_eq_true rfl) (Nat.le_of_ble_eq_true rfl))
    · skip
      have c72 : 0 ≤ (xs 1).toInt := c72
      have c73 : (xs 1).toInt ≤ 3 := c73
      have c74 : (xs 3).toInt < 0 := c74
      exfalso; omega
    · skip
      have c75 : 0 ≤ (xs 1).toInt := c75
      have c76 : (xs 1).toInt ≤ 3 := c76
      have c77 : 0 ≤ (xs 3).toInt := c77
      have c78 : 3 < (xs 3).toInt := c78
      exfalso; omega
    · skip
      have c79 : 0 ≤ (xs 1).toInt := c79
      have c80 : (xs 1).toInt ≤ 3 := c80
      have c81 : 0 ≤ (xs 3).toInt := c81
      have c82 : (xs 3).toInt ≤ 3 := c82
      exfalso; omega
  · skip
    have c17 : 0 ≤ (xs 1).toInt := c17
    have c18 : (xs 1).toInt < 4 := c18
    have c19 : (xs 3).toInt < 0 := c19
    show mp_W E X 4 2185 [(3, .int 0), (2, .ref q2), (1, .ref q1), (0, .ref b)] [.int (-2)] [(q2, .inr (10, [.int 0, .ref (mm 1), .ref (mm 2), .ref (mm 3), .ref (mm 4), .ref (mm 5), .int 0, .int 0, .int 0, .int 0, .int 0, .long 0, .int 0, .int 0, .int 0, .int (-1), .ref (mm 6), .ref (mm 7), .ref (mm 8), .ref (mm 9), .ref (mm 10), .ref (mm 11), .ref (mm 12), .ref (mm 13), .int 0, .ref (mm 14), .ref (mm 15), .ref (mm 16), .ref (mm 17), .int 0, .int 0, .int 0, .ref (mm 18), .ref (mm 19), .int 0, .int 0, .ref (mm 20), .ref (mm 21), .ref (mm 22), .int 0, .int 0, .int 0, .int 0, .ref (mm 23), .ref (mm 24), .ref (mm 25), .int 0])), ((mm 1), .inl (E.2.2 0, 4, .inl wd))] 84 11441
    refine mp_run hF mp_tabL_ok [mp_i (.aload_n 2), mp_i (.aload_n 0), mp_i (.iload_n 3), mp_c (.iconst 1) 1, mp_i .iadd] (by decide +kernel) ?_
    intro z84 h85
    obtain rfl : z84 = 1 := h85.trans (by decide)
    show mp_W E X 4 2190 [(3, .int 0), (2, .ref q2), (1, .ref q1), (0, .ref b)] [.int 1, .ref b, .ref q2, .int (-2)] [(q2, .inr (10, [.int 0, .ref (mm 1), .ref (mm 2), .ref (mm 3), .ref (mm 4), .ref (mm 5), .int 0, .int 0, .int 0, .int 0, .int 0, .long 0, .int 0, .int 0, .int 0, .int (-1), .ref (mm 6), .ref (mm 7), .ref (mm 8), .ref (mm 9), .ref (mm 10), .ref (mm 11), .ref (mm 12), .ref (mm 13), .int 0, .ref (mm 14), .ref (mm 15), .ref (mm 16), .ref (mm 17), .int 0, .int 0, .int 0, .ref (mm 18), .ref (mm 19), .int 0, .int 0, .ref (mm 20), .ref (mm 21), .ref (mm 22), .int 0, .int 0, .int 0, .int 0, .ref (mm 23), .ref (mm 24), .ref (mm 25), .int 0])), ((mm 1), .inl (E.2.2 0, 4, .inl wd))] 84 11441
    refine mp_lsld hL 1 (by decide) (by decide) (by decide) (by decide +kernel) ?_
    show mp_W E X 4 2191 [(3, .int 0), (2, .ref q2), (1, .ref q1), (0, .ref b)] [.int (xs 1), .ref q2, .int (-2)] [(q2, .inr (10, [.int 0, .ref (mm 1), .ref (mm 2), .ref (mm 3), .ref (mm 4), .ref (mm 5), .int 0, .int 0, .int 0, .int 0, .int 0, .long 0, .int 0, .int 0, .int 0, .int (-1), .ref (mm 6), .ref (mm 7), .ref (mm 8), .ref (mm 9), .ref (mm 10), .ref (mm 11), .ref (mm 12), .ref (mm 13), .int 0, .ref (mm 14), .ref (mm 15), .ref (mm 16), .ref (mm 17), .int 0, .int 0, .int 0, .ref (mm 18), .ref (mm 19), .int 0, .int 0, .ref (mm 20), .ref (mm 21), .ref (mm 22), .int 0, .int 0, .int 0, .int 0, .ref (mm 23), .ref (mm 24), .ref (mm 25), .int 0])), ((mm 1), .inl (E.2.2 0, 4, .inl wd))] 84 11441
    refine mp_run hF mp_tabL_ok [mp_i (.aload_n 0), mp_i (.iload_n 3), mp_c (.iconst 2) 2, mp_i .iadd] (by decide +kernel) ?_
    intro z86 h87
    obtain rfl : z86 = 2 := h87.trans (by decide)
    show mp_W E X 4 2195 [(3, .int 0), (2, .ref q2), (1, .ref q1), (0, .ref b)] [.int 2, .ref b, .int (xs 1), .ref q2, .int (-2)] [(q2, .inr (10, [.int 0, .ref (mm 1), .ref (mm 2), .ref (mm 3), .ref (mm 4), .ref (mm 5), .int 0, .int 0, .int 0, .int 0, .int 0, .long 0, .int 0, .int 0, .int 0, .int (-1), .ref (mm 6), .ref (mm 7), .ref (mm 8), .ref (mm 9), .ref (mm 10), .ref (mm 11), .ref (mm 12), .ref (mm 13), .int 0, .ref (mm 14), .ref (mm 15), .ref (mm 16), .ref (mm 17), .int 0, .int 0, .int 0, .ref (mm 18), .ref (mm 19), .int 0, .int 0, .ref (mm 20), .ref (mm 21), .ref (mm 22), .int 0, .int 0, .int 0, .int 0, .ref (mm 23), .ref (mm 24), .ref (mm 25), .int 0])), ((mm 1), .inl (E.2.2 0, 4, .inl wd))] 84 11441
    refine mp_lsld hL 2 (by decide) (by decide) (by decide) (by decide +kernel) ?_
    show mp_W E X 4 2196 [(3, .int 0), (2, .ref q2), (1, .ref q1), (0, .ref b)] [.int (xs 2), .int (xs 1), .ref q2, .int (-2)] [(q2, .inr (10, [.int 0, .ref (mm 1), .ref (mm 2), .ref (mm 3), .ref (mm 4), .ref (mm 5), .int 0, .int 0, .int 0, .int 0, .int 0, .long 0, .int 0, .int 0, .int 0, .int (-1), .ref (mm 6), .ref (mm 7), .ref (mm 8), .ref (mm 9), .ref (mm 10), .ref (mm 11), .ref (mm 12), .ref (mm 13), .int 0, .ref (mm 14), .ref (mm 15), .ref (mm 16), .ref (mm 17), .int 0, .int 0, .int 0, .ref (mm 18), .ref (mm 19), .int 0, .int 0, .ref (mm 20), .ref (mm 21), .ref (mm 22), .int 0, .int 0, .int 0, .int 0, .ref (mm 23), .ref (mm 24), .ref (mm 25), .int 0])), ((mm 1), .inl (E.2.2 0, 4, .inl wd))] 84 11441
    refine mp_run hF mp_tabL_ok [mp_i (.aload_n 0), mp_i (.iload_n 3), mp_c (.iconst 3) 3, mp_i .iadd] (by decide +kernel) ?_
    intro z88 h89
    obtain rfl : z88 = 3 := h89.trans (by decide)
    show mp_W E X 4 2200 [(3, .int 0), (2, .ref q2), (1, .ref q1), (0, .ref b)] [.int 3, .ref b, .int (xs 2), .int (xs 1), .ref q2, .int (-2)] [(q2, .inr (10, [.int 0, .ref (mm 1), .ref (mm 2), .ref (mm 3), .ref (mm 4), .ref (mm 5), .int 0, .int 0, .int 0, .int 0, .int 0, .long 0, .int 0, .int 0, .int 0, .int (-1), .ref (mm 6), .ref (mm 7), .ref (mm 8), .ref (mm 9), .ref (mm 10), .ref (mm 11), .ref (mm 12), .ref (mm 13), .int 0, .ref (mm 14), .ref (mm 15), .ref (mm 16), .ref (mm 17), .int 0, .int 0, .int 0, .ref (mm 18), .ref (mm 19), .int 0, .int 0, .ref (mm 20), .ref (mm 21), .ref (mm 22), .int 0, .int 0, .int 0, .int 0, .ref (mm 23), .ref (mm 24), .ref (mm 25), .int 0])), ((mm 1), .inl (E.2.2 0, 4, .inl wd))] 84 11441
    refine mp_lsld hL 3 (by decide) (by decide) (by decide) (by decide +kernel) ?_
    show mp_W E X 4 2201 [(3, .int 0), (2, .ref q2), (1, .ref q1), (0, .ref b)] [.int (xs 3), .int (xs 2), .int (xs 1), .ref q2, .int (-2)] [(q2, .inr (10, [.int 0, .ref (mm 1), .ref (mm 2), .ref (mm 3), .ref (mm 4), .ref (mm 5), .int 0, .int 0, .int 0, .int 0, .int 0, .long 0, .int 0, .int 0, .int 0, .int (-1), .ref (mm 6), .ref (mm 7), .ref (mm 8), .ref (mm 9), .ref (mm 10), .ref (mm 11), .ref (mm 12), .ref (mm 13), .int 0, .ref (mm 14), .ref (mm 15), .ref (mm 16), .ref (mm 17), .int 0, .int 0, .int 0, .ref (mm 18), .ref (mm 19), .int 0, .int 0, .ref (mm 20), .ref (mm 21), .ref (mm 22), .int 0, .int 0, .int 0, .int 0, .ref (mm 23), .ref (mm 24), .ref (mm 25), .int 0])), ((mm 1), .inl (E.2.2 0, 4, .inl wd))] 84 11441
    refine mp_run hF mp_tabL_ok [mp_i (.aload_n 0), mp_i (.iload_n 3), mp_c (.iconst 4) 4, mp_i .iadd] (by decide +kernel) ?_
    intro z90 h91
    obtain rfl : z90 = 4 := h91.trans (by decide)
    show mp_W E X 4 2205 [(3, .int 0), (2, .ref q2), (1, .ref q1), (0, .ref b)] [.int 4, .ref b, .int (xs 3), .int (xs 2), .int (xs 1), .ref q2, .int (-2)] [(q2, .inr (10, [.int 0, .ref (mm 1), .ref (mm 2), .ref (mm 3), .ref (mm 4), .ref (mm 5), .int 0, .int 0, .int 0, .int 0, .int 0, .long 0, .int 0, .int 0, .int 0, .int (-1), .ref (mm 6), .ref (mm 7), .ref (mm 8), .ref (mm 9), .ref (mm 10), .ref (mm 11), .ref (mm 12), .ref (mm 13), .int 0, .ref (mm 14), .ref (mm 15), .ref (mm 16), .ref (mm 17), .int 0, .int 0, .int 0, .ref (mm 18), .ref (mm 19), .int 0, .int 0, .ref (mm 20), .ref (mm 21), .ref (mm 22), .int 0, .int 0, .int 0, .int 0, .ref (mm 23), .ref (mm 24), .ref (mm 25), .int 0])), ((mm 1), .inl (E.2.2 0, 4, .inl wd))] 84 11441
    refine mp_lsld hL 4 (by decide) (by decide) (by decide) (by decide +kernel) ?_
    show mp_W E X 4 2206 [(3, .int 0), (2, .ref q2), (1, .ref q1), (0, .ref b)] [.int (xs 4), .int (xs 3), .int (xs 2), .int (xs 1), .ref q2, .int (-2)] [(q2, .inr (10, [.int 0, .ref (mm 1), .ref (mm 2), .ref (mm 3), .ref (mm 4), .ref (mm 5), .int 0, .int 0, .int 0, .int 0, .int 0, .long 0, .int 0, .int 0, .int 0, .int (-1), .ref (mm 6), .ref (mm 7), .ref (mm 8), .ref (mm 9), .ref (mm 10), .ref (mm 11), .ref (mm 12), .ref (mm 13), .int 0, .ref (mm 14), .ref (mm 15), .ref (mm 16), .ref (mm 17), .int 0, .int 0, .int 0, .ref (mm 18), .ref (mm 19), .int 0, .int 0, .ref (mm 20), .ref (mm 21), .ref (mm 22), .int 0, .int 0, .int 0, .int 0, .ref (mm 23), .ref (mm 24), .ref (mm 25), .int 0])), ((mm 1), .inl (E.2.2 0, 4, .inl wd))] 84 11441
    refine mp_run hF mp_tabL_ok [mp_i (.aload_n 0), mp_i (.iload_n 3), mp_c (.iconst 5) 5, mp_i .iadd] (by decide +kernel) ?_
    intro z92 h93
    obtain rfl : z92 = 5 := h93.trans (by decide)
    show mp_W E X 4 2210 [(3, .int 0), (2, .ref q2), (1, .ref q1), (0, .ref b)] [.int 5, .ref b, .int (xs 4), .int (xs 3), .int (xs 2), .int (xs 1), .ref q2, .int (-2)] [(q2, .inr (10, [.int 0, .ref (mm 1), .ref (mm 2), .ref (mm 3), .ref (mm 4), .ref (mm 5), .int 0, .int 0, .int 0, .int 0, .int 0, .long 0, .int 0, .int 0, .int 0, .int (-1), .ref (mm 6), .ref (mm 7), .ref (mm 8), .ref (mm 9), .ref (mm 10), .ref (mm 11), .ref (mm 12), .ref (mm 13), .int 0, .ref (mm 14), .ref (mm 15), .ref (mm 16), .ref (mm 17), .int 0, .int 0, .int 0, .ref (mm 18), .ref (mm 19), .int 0, .int 0, .ref (mm 20), .ref (mm 21), .ref (mm 22), .int 0, .int 0, .int 0, .int 0, .ref (mm 23), .ref (mm 24), .ref (mm 25), .int 0])), ((mm 1), .inl (E.2.2 0, 4, .inl wd))] 84 11441
    refine mp_lsld hL 5 (by decide) (by decide) (by decide) (by decide +kernel) ?_
    show mp_W E X 4 2211 [(3, .int 0), (2, .ref q2), (1, .ref q1), (0, .ref b)] [.int (xs 5), .int (xs 4), .int (xs 3), .int (xs 2), .int (xs 1), .ref q2, .int (-2)] [(q2, .inr (10, [.int 0, .ref (mm 1), .ref (mm 2), .ref (mm 3), .ref (mm 4), .ref (mm 5), .int 0, .int 0, .int 0, .int 0, .int 0, .long 0, .int 0, .int 0, .int 0, .int (-1), .ref (mm 6), .ref (mm 7), .ref (mm 8), .ref (mm 9), .ref (mm 10), .ref (mm 11), .ref (mm 12), .ref (mm 13), .int 0, .ref (mm 14), .ref (mm 15), .ref (mm 16), .ref (mm 17), .int 0, .int 0, .int 0, .ref (mm 18), .ref (mm 19), .int 0, .int 0, .ref (mm 20), .ref (mm 21), .ref (mm 22), .int 0, .int 0, .int 0, .int 0, .ref (mm 23), .ref (mm 24), .ref (mm 25), .int 0])), ((mm 1), .inl (E.2.2 0, 4, .inl wd))] 84 11441
    refine mp_callV hF (As := [.int (xs 1), .int (xs 2), .int (xs 3), .int (xs 4), .int (xs 5)]) (rest := [.int (-2)]) (wr := []) (aX10_paste_197 E q2 (mm 1) (mm 2) (mm 3) (mm 4) (mm 5) (mm 6) (mm 7) (mm 8) (mm 9) (mm 10) (mm 11) (mm 12) (mm 13) (mm 14) (mm 15) (mm 16) (mm 17) (mm 18) (mm 19) (mm 20) (mm 21) (mm 22) (mm 23) (mm 24) (mm 25) wd (xs 1) (xs 2) (xs 3) (xs 4) (xs 5) hwd) mp_lkL_262 0 rfl [0, 1] [] rfl rfl rfl rfl rfl ⟨(Nat.le_of_ble_eq_true rfl), (Nat.le_of_ble_eq_true rfl), (Nat.le_of_ble_eq_true rfl), (Nat.le_of_ble_eq_true rfl)⟩ (Nat.le_of_ble_eq_true rfl) (by decide +kernel) (fun v94 w95 h96 => ?_)
    rcases h96 with ⟨rfl, c97, rfl⟩ | ⟨rfl, c98, c99, rfl⟩ | ⟨rfl, c100, c101, c102, rfl⟩ | ⟨rfl, c103, c104, c105, c106, rfl⟩ | ⟨rfl, c107, c108, c109, c110, rfl⟩
    · skip
      have c97 : (xs 1).toInt < 0 := c97
      exfalso; omega
    · skip
      have c98 : 0 ≤ (xs 1).toInt := c98
      have c99 : 3 < (xs 1).toInt := c99
      exfalso; omega
    · skip
      have c100 : 0 ≤ (xs 1).toInt := c100
      have c101 : (xs 1).toInt ≤ 3 := c101
      have c102 : (xs 3).toInt < 0 := c102
      show mp_W E X 4 2214 [(3, .int 0), (2, .ref q2), (1, .ref q1), (0, .ref b)] [.int (-2), .int (-2)] [] 84 11441
      refine mp_run hF mp_tabL_ok [mp_h (.if_icmp .eq 5) [2219]] (by decide +kernel) ?_
      refine And.intro (fun _ => ?_) (fun c111 => absurd c111 (by decide))
      show mp_W E X 4 2219 [(3, .int 0), (2, .ref q2), (1, .ref q1), (0, .ref b)] [] [] 84 11441
      exact mp_sub [3, 0] rfl [] rfl rfl (mp_lw_next hL (Nat.le_of_ble_eq_true rfl) (Nat.le_of_ble_eq_true rfl))
    · skip
      have c103 : 0 ≤ (xs 1).toInt := c103
      have c104 : (xs 1).toInt ≤ 3 := c104
      have c105 : 0 ≤ (xs 3).toInt := c105
      have c106 : 3 < (xs 3).toInt := c106
      exfalso; omega
    · skip
      have c107 : 0 ≤ (xs 1).toInt := c107
      have c108 : (xs 1).toInt ≤ 3 := c108
      have c109 : 0 ≤ (xs 3).toInt := c109
      have c110 : (xs 3).toInt ≤ 3 := c110
      exfalso; omega
  · skip
    have c20 : 0 ≤ (xs 1).toInt := c20
    have c21 : (xs 1).toInt < 4 := c21
    have c22 : 0 ≤ (xs 3).toInt := c22
    have c23 : 4 ≤ (xs 3).toInt := c23
    show mp_W E X 4 2185 [(3, .int 0), (2, .ref q2), (1, .ref q1), (0, .ref b)] [.int (-2)] [(q2, .inr (10, [.int 0, .ref (mm 1), .ref (mm 2), .ref (mm 3), .ref (mm 4), .ref (mm 5), .int 0, .int 0, .int 0, .int 0, .int 0, .long 0, .int 0, .int 0, .int 0, .int (-1), .ref (mm 6), .ref (mm 7), .ref (mm 8), .ref (mm 9), .ref (mm 10), .ref (mm 11), .ref (mm 12), .ref (mm 13), .int 0, .ref (mm 14), .ref (mm 15), .ref (mm 16), .ref (mm 17), .int 0, .int 0, .int 0, .ref (mm 18), .ref (mm 19), .int 0, .int 0, .ref (mm 20), .ref (mm 21), .ref (mm 22), .int 0, .int 0, .int 0, .int 0, .ref (mm 23), .ref (mm 24), .ref (mm 25), .int 0])), ((mm 1), .inl (E.2.2 0, 4, .inl wd))] 84 11441
    refine mp_run hF mp_tabL_ok [mp_i (.aload_n 2), mp_i (.aload_n 0), mp_i (.iload_n 3), mp_c (.iconst 1) 1, mp_i .iadd] (by decide +kernel) ?_
    intro z112 h113
    obtain rfl : z112 = 1 := h113.trans (by decide)
    show mp_W E X 4 2190 [(3, .int 0), (2, .ref q2), (1, .ref q1), (0, .ref b)] [.int 1, .ref b, .ref q2, .int (-2)] [(q2, .inr (10, [.int 0, .ref (mm 1), .ref (mm 2), .ref (mm 3), .ref (mm 4), .ref (mm 5), .int 0, .int 0, .int 0, .int 0, .int 0, .long 0, .int 0, .int 0, .int 0, .int (-1), .ref (mm 6), .ref (mm 7), .ref (mm 8), .ref (mm 9), .ref (mm 10), .ref (mm 11), .ref (mm 12), .ref (mm 13), .int 0, .ref (mm 14), .ref (mm 15), .ref (mm 16), .ref (mm 17), .int 0, .int 0, .int 0, .ref (mm 18), .ref (mm 19), .int 0, .int 0, .ref (mm 20), .ref (mm 21), .ref (mm 22), .int 0, .int 0, .int 0, .int 0, .ref (mm 23), .ref (mm 24), .ref (mm 25), .int 0])), ((mm 1), .inl (E.2.2 0, 4, .inl wd))] 84 11441
    refine mp_lsld hL 1 (by decide) (by decide) (by decide) (by decide +kernel) ?_
    show mp_W E X 4 2191 [(3, .int 0), (2, .ref q2), (1, .ref q1), (0, .ref b)] [.int (xs 1), .ref q2, .int (-2)] [(q2, .inr (10, [.int 0, .ref (mm 1), .ref (mm 2), .ref (mm 3), .ref (mm 4), .ref (mm 5), .int 0, .int 0, .int 0, .int 0, .int 0, .long 0, .int 0, .int 0, .int 0, .int (-1), .ref (mm 6), .ref (mm 7), .ref (mm 8), .ref (mm 9), .ref (mm 10), .ref (mm 11), .ref (mm 12), .ref (mm 13), .int 0, .ref (mm 14), .ref (mm 15), .ref (mm 16), .ref (mm 17), .int 0, .int 0, .int 0, .ref (mm 18), .ref (mm 19), .int 0, .int 0, .ref (mm 20), .ref (mm 21), .ref (mm 22), .int 0, .int 0, .int 0, .int 0, .ref (mm 23), .ref (mm 24), .ref (mm 25), .int 0])), ((mm 1), .inl (E.2.2 0, 4, .inl wd))] 84 11441
    refine mp_run hF mp_tabL_ok [mp_i (.aload_n 0), mp_i (.iload_n 3), mp_c (.iconst 2) 2, mp_i .iadd] (by decide +kernel) ?_
    intro z114 h115
    obtain rfl : z114 = 2 := h115.trans (by decide)
    show mp_W E X 4 2195 [(3, .int 0), (2, .ref q2), (1, .ref q1), (0, .ref b)] [.int 2, .ref b, .int (xs 1), .ref q2, .int (-2)] [(q2, .inr (10, [.int 0, .ref (mm 1), .ref (mm 2), .ref (mm 3), .ref (mm 4), .ref (mm 5), .int 0, .int 0, .int 0, .int 0, .int 0, .long 0, .int 0, .int 0, .int 0, .int (-1), .ref (mm 6), .ref (mm 7), .ref (mm 8), .ref (mm 9), .ref (mm 10), .ref (mm 11), .ref (mm 12), .ref (mm 13), .int 0, .ref (mm 14), .ref (mm 15), .ref (mm 16), .ref (mm 17), .int 0, .int 0, .int 0, .ref (mm 18), .ref (mm 19), .int 0, .int 0, .ref (mm 20), .ref (mm 21), .ref (mm 22), .int 0, .int 0, .int 0, .int 0, .ref (mm 23), .ref (mm 24), .ref (mm 25), .int 0])), ((mm 1), .inl (E.2.2 0, 4, .inl wd))] 84 11441
    refine mp_lsld hL 2 (by decide) (by decide) (by decide) (by decide +kernel) ?_
    show mp_W E X 4 2196 [(3, .int 0), (2, .ref q2), (1, .ref q1), (0, .ref b)] [.int (xs 2), .int (xs 1), .ref q2, .int (-2)] [(q2, .inr (10, [.int 0, .ref (mm 1), .ref (mm 2), .ref (mm 3), .ref (mm 4), .ref (mm 5), .int 0, .int 0, .int 0, .int 0, .int 0, .long 0, .int 0, .int 0, .int 0, .int (-1), .ref (mm 6), .ref (mm 7), .ref (mm 8), .ref (mm 9), .ref (mm 10), .ref (mm 11), .ref (mm 12), .ref (mm 13), .int 0, .ref (mm 14), .ref (mm 15), .ref (mm 16), .ref (mm 17), .int 0, .int 0, .int 0, .ref (mm 18), .ref (mm 19), .int 0, .int 0, .ref (mm 20), .ref (mm 21), .ref (mm 22), .int 0, .int 0, .int 0, .int 0, .ref (mm 23), .ref (mm 24), .ref (mm 25), .int 0])), ((mm 1), .inl (E.2.2 0, 4, .inl wd))] 84 11441
    refine mp_run hF mp_tabL_ok [mp_i (.aload_n 0), mp_i (.iload_n 3), mp_c (.iconst 3) 3, mp_i .iadd] (by decide +kernel) ?_
    intro z116 h117
    obtain rfl : z116 = 3 := h117.trans (by decide)
    show mp_W E X 4 2200 [(3, .int 0), (2, .ref q2), (1, .ref q1), (0, .ref b)] [.int 3, .ref b, .int (xs 2), .int (xs 1), .ref q2, .int (-2)] [(q2, .inr (10, [.int 0, .ref (mm 1), .ref (mm 2), .ref (mm 3), .ref (mm 4), .ref (mm 5), .int 0, .int 0, .int 0, .int 0, .int 0, .long 0, .int 0, .int 0, .int 0, .int (-1), .ref (mm 6), .ref (mm 7), .ref (mm 8), .ref (mm 9), .ref (mm 10), .ref (mm 11), .ref (mm 12), .ref (mm 13), .int 0, .ref (mm 14), .ref (mm 15), .ref (mm 16), .ref (mm 17), .int 0, .int 0, .int 0, .ref (mm 18), .ref (mm 19), .int 0, .int 0, .ref (mm 20), .ref (mm 21), .ref (mm 22), .int 0, .int 0, .int 0, .int 0, .ref (mm 23), .ref (mm 24), .ref (mm 25), .int 0])), ((mm 1), .inl (E.2.2 0, 4, .inl wd))] 84 11441
    refine mp_lsld hL 3 (by decide) (by decide) (by decide) (by decide +kernel) ?_
    show mp_W E X 4 2201 [(3, .int 0), (2, .ref q2), (1, .ref q1), (0, .ref b)] [.int (xs 3), .int (xs 2), .int (xs 1), .ref q2, .int (-2)] [(q2, .inr (10, [.int 0, .ref (mm 1), .ref (mm 2), .ref (mm 3), .ref (mm 4), .ref (mm 5), .int 0, .int 0, .int 0, .int 0, .int 0, .long 0, .int 0, .int 0, .int 0, .int (-1), .ref (mm 6), .ref (mm 7), .ref (mm 8), .ref (mm 9), .ref (mm 10), .ref (mm 11), .ref (mm 12), .ref (mm 13), .int 0, .ref (mm 14), .ref (mm 15), .ref (mm 16), .ref (mm 17), .int 0, .int 0, .int 0, .ref (mm 18), .ref (mm 19), .int 0, .int 0, .ref (mm 20), .ref (mm 21), .ref (mm 22), .int 0, .int 0, .int 0, .int 0, .ref (mm 23), .ref (mm 24), .ref (mm 25), .int 0])), ((mm 1), .inl (E.2.2 0, 4, .inl wd))] 84 11441
    refine mp_run hF mp_tabL_ok [mp_i (.aload_n 0), mp_i (.iload_n 3), mp_c (.iconst 4) 4, mp_i .iadd] (by decide +kernel) ?_
    intro z118 h119
    obtain rfl : z118 = 4 := h119.trans (by decide)
    show mp_W E X 4 2205 [(3, .int 0), (2, .ref q2), (1, .ref q1), (0, .ref b)] [.int 4, .ref b, .int (xs 3), .int (xs 2), .int (xs 1), .ref q2, .int (-2)] [(q2, .inr (10, [.int 0, .ref (mm 1), .ref (mm 2), .ref (mm 3), .ref (mm 4), .ref (mm 5), .int 0, .int 0, .int 0, .int 0, .int 0, .long 0, .int 0, .int 0, .int 0, .int (-1), .ref (mm 6), .ref (mm 7), .ref (mm 8), .ref (mm 9), .ref (mm 10), .ref (mm 11), .ref (mm 12), .ref (mm 13), .int 0, .ref (mm 14), .ref (mm 15), .ref (mm 16), .ref (mm 17), .int 0, .int 0, .int 0, .ref (mm 18), .ref (mm 19), .int 0, .int 0, .ref (mm 20), .ref (mm 21), .ref (mm 22), .int 0, .int 0, .int 0, .int 0, .ref (mm 23), .ref (mm 24), .ref (mm 25), .int 0])), ((mm 1), .inl (E.2.2 0, 4, .inl wd))] 84 11441
    refine mp_lsld hL 4 (by decide) (by decide) (by decide) (by decide +kernel) ?_
    show mp_W E X 4 2206 [(3, .int 0), (2, .ref q2), (1, .ref q1), (0, .ref b)] [.int (xs 4), .int (xs 3), .int (xs 2), .int (xs 1), .ref q2, .int (-2)] [(q2, .inr (10, [.int 0, .ref (mm 1), .ref (mm 2), .ref (mm 3), .ref (mm 4), .ref (mm 5), .int 0, .int 0, .int 0, .int 0, .int 0, .long 0, .int 0, .int 0, .int 0, .int (-1), .ref (mm 6), .ref (mm 7), .ref (mm 8), .ref (mm 9), .ref (mm 10), .ref (mm 11), .ref (mm 12), .ref (mm 13), .int 0, .ref (mm 14), .ref (mm 15), .ref (mm 16), .ref (mm 17), .int 0, .int 0, .int 0, .ref (mm 18), .ref (mm 19), .int 0, .int 0, .ref (mm 20), .ref (mm 21), .ref (mm 22), .int 0, .int 0, .int 0, .int 0, .ref (mm 23), .ref (mm 24), .ref (mm 25), .int 0])), ((mm 1), .inl (E.2.2 0, 4, .inl wd))] 84 11441
    refine mp_run hF mp_tabL_ok [mp_i (.aload_n 0), mp_i (.iload_n 3), mp_c (.iconst 5) 5, mp_i .iadd] (by decide +kernel) ?_
    intro z120 h121
    obtain rfl : z120 = 5 := h121.trans (by decide)
    show mp_W E X 4 2210 [(3, .int 0), (2, .ref q2), (1, .ref q1), (0, .ref b)] [.int 5, .ref b, .int (xs 4), .int (xs 3), .int (xs 2), .int (xs 1), .ref q2, .int (-2)] [(q2, .inr (10, [.int 0, .ref (mm 1), .ref (mm 2), .ref (mm 3), .ref (mm 4), .ref (mm 5), .int 0, .int 0, .int 0, .int 0, .int 0, .long 0, .int 0, .int 0, .int 0, .int (-1), .ref (mm 6), .ref (mm 7), .ref (mm 8), .ref (mm 9), .ref (mm 10), .ref (mm 11), .ref (mm 12), .ref (mm 13), .int 0, .ref (mm 14), .ref (mm 15), .ref (mm 16), .ref (mm 17), .int 0, .int 0, .int 0, .ref (mm 18), .ref (mm 19), .int 0, .int 0, .ref (mm 20), .ref (mm 21), .ref (mm 22), .int 0, .int 0, .int 0, .int 0, .ref (mm 23), .ref (mm 24), .ref (mm 25), .int 0])), ((mm 1), .inl (E.2.2 0, 4, .inl wd))] 84 11441
    refine mp_lsld hL 5 (by decide) (by decide) (by decide) (by decide +kernel) ?_
    show mp_W E X 4 2211 [(3, .int 0), (2, .ref q2), (1, .ref q1), (0, .ref b)] [.int (xs 5), .int (xs 4), .int (xs 3), .int (xs 2), .int (xs 1), .ref q2, .int (-2)] [(q2, .inr (10, [.int 0, .ref (mm 1), .ref (mm 2), .ref (mm 3), .ref (mm 4), .ref (mm 5), .int 0, .int 0, .int 0, .int 0, .int 0, .long 0, .int 0, .int 0, .int 0, .int (-1), .ref (mm 6), .ref (mm 7), .ref (mm 8), .ref (mm 9), .ref (mm 10), .ref (mm 11), .ref (mm 12), .ref (mm 13), .int 0, .ref (mm 14), .ref (mm 15), .ref (mm 16), .ref (mm 17), .int 0, .int 0, .int 0, .ref (mm 18), .ref (mm 19), .int 0, .int 0, .ref (mm 20), .ref (mm 21), .ref (mm 22), .int 0, .int 0, .int 0, .int 0, .ref (mm 23), .ref (mm 24), .ref (mm 25), .int 0])), ((mm 1), .inl (E.2.2 0, 4, .inl wd))] 84 11441
    refine mp_callV hF (As := [.int (xs 1), .int (xs 2), .int (xs 3), .int (xs 4), .int (xs 5)]) (rest := [.int (-2)]) (wr := []) (aX10_paste_197 E q2 (mm 1) (mm 2) (mm 3) (mm 4) (mm 5) (mm 6) (mm 7) (mm 8) (mm 9) (mm 10) (mm 11) (mm 12) (mm 13) (mm 14) (mm 15) (mm 16) (mm 17) (mm 18) (mm 19) (mm 20) (mm 21) (mm 22) (mm 23) (mm 24) (mm 25) wd (xs 1) (xs 2) (xs 3) (xs 4) (xs 5) hwd) mp_lkL_262 0 rfl [0, 1] [] rfl rfl rfl rfl rfl ⟨(Nat.le_of_ble_eq_true rfl), (Nat.le_of_ble_eq_true rfl), (Nat.le_of_ble_eq_true rfl), (Nat.le_of_ble_eq_true rfl)⟩ (Nat.le_of_ble_eq_true rfl) (by decide +kernel) (fun v122 w123 h124 => ?_)
    rcases h124 with ⟨rfl, c125, rfl⟩ | ⟨rfl, c126, c127, rfl⟩ | ⟨rfl, c128, c129, c130, rfl⟩ | ⟨rfl, c131, c132, c133, c134, rfl⟩ | ⟨rfl, c135, c136, c137, c138, rfl⟩
    · skip
      have c125 : (xs 1).toInt < 0 := c125
      exfalso; omega
    · skip
      have c126 : 0 ≤ (xs 1).toInt := c126
      have c127 : 3 < (xs 1).toInt := c127
      exfalso; omega
    · skip
      have c128 : 0 ≤ (xs 1).toInt := c128
      have c129 : (xs 1).toInt ≤ 3 := c129
      have c130 : (xs 3).toInt < 0 := c130
      exfalso; omega
    · skip
      have c131 : 0 ≤ (xs 1).toInt := c131
      have c132 : (xs 1).toInt ≤ 3 := c132
      have c133 : 0 ≤ (xs 3).toInt := c133
      have c134 : 3 < (xs 3).toInt := c134
      show mp_W E X 4 2214 [(3, .int 0), (2, .ref q2), (1, .ref q1), (0, .ref b)] [.int (-2), .int (-2)] [] 84 11441
      refine mp_run hF mp_tabL_ok [mp_h (.if_icmp .eq 5) [2219]] (by decide +kernel) ?_
      refine And.intro (fun _ => ?_) (fun c139 => absurd c139 (by decide))
      show mp_W E X 4 2219 [(3, .int 0), (2, .ref q2), (1, .ref q1), (0, .ref b)] [] [] 84 11441
      exact mp_sub [3, 0] rfl [] rfl rfl (mp_lw_next hL (Nat.le_of_ble_eq_true rfl) (Nat.le_of_ble_eq_true rfl))
    · skip
      have c135 : 0 ≤ (xs 1).toInt := c135
      have c136 : (xs 1).toInt ≤ 3 := c136
      have c137 : 0 ≤ (xs 3).toInt := c137
      have c138 : (xs 3).toInt ≤ 3 := c138
      exfalso; omega
  · skip
    have c24 : 0 ≤ (xs 1).toInt := c24
    have c25 : (xs 1).toInt < 4 := c25
    have c26 : 0 ≤ (xs 3).toInt := c26
    have c27 : (xs 3).toInt < 4 := c27
    show mp_W E X 4 2185 [(3, .int 0), (2, .ref q2), (1, .ref q1), (0, .ref b)] [.int (-6)] [(q2, .inr (10, [.int 0, .ref (mm 1), .ref (mm 2), .ref (mm 3), .ref (mm 4), .ref (mm 5), .int 0, .int 0, .int 0, .int 0, .int 0, .long 0, .int 0, .int 0, .int 0, .int (-1), .ref (mm 6), .ref (mm 7), .ref (mm 8), .ref (mm 9), .ref (mm 10), .ref (mm 11), .ref (mm 12), .ref (mm 13), .int 0, .ref (mm 14), .ref (mm 15), .ref (mm 16), .ref (mm 17), .int 0, .int 0, .int 0, .ref (mm 18), .ref (mm 19), .int 0, .int 0, .ref (mm 20), .ref (mm 21), .ref (mm 22), .int 0, .int 0, .int 0, .int 0, .ref (mm 23), .ref (mm 24), .ref (mm 25), .int 0])), ((mm 1), .inl (E.2.2 0, 4, .inl wd))] 84 11441
    refine mp_run hF mp_tabL_ok [mp_i (.aload_n 2), mp_i (.aload_n 0), mp_i (.iload_n 3), mp_c (.iconst 1) 1, mp_i .iadd] (by decide +kernel) ?_
    intro z140 h141
    obtain rfl : z140 = 1 := h141.trans (by decide)
    show mp_W E X 4 2190 [(3, .int 0), (2, .ref q2), (1, .ref q1), (0, .ref b)] [.int 1, .ref b, .ref q2, .int (-6)] [(q2, .inr (10, [.int 0, .ref (mm 1), .ref (mm 2), .ref (mm 3), .ref (mm 4), .ref (mm 5), .int 0, .int 0, .int 0, .int 0, .int 0, .long 0, .int 0, .int 0, .int 0, .int (-1), .ref (mm 6), .ref (mm 7), .ref (mm 8), .ref (mm 9), .ref (mm 10), .ref (mm 11), .ref (mm 12), .ref (mm 13), .int 0, .ref (mm 14), .ref (mm 15), .ref (mm 16), .ref (mm 17), .int 0, .int 0, .int 0, .ref (mm 18), .ref (mm 19), .int 0, .int 0, .ref (mm 20), .ref (mm 21), .ref (mm 22), .int 0, .int 0, .int 0, .int 0, .ref (mm 23), .ref (mm 24), .ref (mm 25), .int 0])), ((mm 1), .inl (E.2.2 0, 4, .inl wd))] 84 11441
    refine mp_lsld hL 1 (by decide) (by decide) (by decide) (by decide +kernel) ?_
    show mp_W E X 4 2191 [(3, .int 0), (2, .ref q2), (1, .ref q1), (0, .ref b)] [.int (xs 1), .ref q2, .int (-6)] [(q2, .inr (10, [.int 0, .ref (mm 1), .ref (mm 2), .ref (mm 3), .ref (mm 4), .ref (mm 5), .int 0, .int 0, .int 0, .int 0, .int 0, .long 0, .int 0, .int 0, .int 0, .int (-1), .ref (mm 6), .ref (mm 7), .ref (mm 8), .ref (mm 9), .ref (mm 10), .ref (mm 11), .ref (mm 12), .ref (mm 13), .int 0, .ref (mm 14), .ref (mm 15), .ref (mm 16), .ref (mm 17), .int 0, .int 0, .int 0, .ref (mm 18), .ref (mm 19), .int 0, .int 0, .ref (mm 20), .ref (mm 21), .ref (mm 22), .int 0, .int 0, .int 0, .int 0, .ref (mm 23), .ref (mm 24), .ref (mm 25), .int 0])), ((mm 1), .inl (E.2.2 0, 4, .inl wd))] 84 11441
    refine mp_run hF mp_tabL_ok [mp_i (.aload_n 0), mp_i (.iload_n 3), mp_c (.iconst 2) 2, mp_i .iadd] (by decide +kernel) ?_
    intro z142 h143
    obtain rfl : z142 = 2 := h143.trans (by decide)
    show mp_W E X 4 2195 [(3, .int 0), (2, .ref q2), (1, .ref q1), (0, .ref b)] [.int 2, .ref b, .int (xs 1), .ref q2, .int (-6)] [(q2, .inr (10, [.int 0, .ref (mm 1), .ref (mm 2), .ref (mm 3), .ref (mm 4), .ref (mm 5), .int 0, .int 0, .int 0, .int 0, .int 0, .long 0, .int 0, .int 0, .int 0, .int (-1), .ref (mm 6), .ref (mm 7), .ref (mm 8), .ref (mm 9), .ref (mm 10), .ref (mm 11), .ref (mm 12), .ref (mm 13), .int 0, .ref (mm 14), .ref (mm 15), .ref (mm 16), .ref (mm 17), .int 0, .int 0, .int 0, .ref (mm 18), .ref (mm 19), .int 0, .int 0, .ref (mm 20), .ref (mm 21), .ref (mm 22), .int 0, .int 0, .int 0, .int 0, .ref (mm 23), .ref (mm 24), .ref (mm 25), .int 0])), ((mm 1), .inl (E.2.2 0, 4, .inl wd))] 84 11441
    refine mp_lsld hL 2 (by decide) (by decide) (by decide) (by decide +kernel) ?_
    show mp_W E X 4 2196 [(3, .int 0), (2, .ref q2), (1, .ref q1), (0, .ref b)] [.int (xs 2), .int (xs 1), .ref q2, .int (-6)] [(q2, .inr (10, [.int 0, .ref (mm 1), .ref (mm 2), .ref (mm 3), .ref (mm 4), .ref (mm 5), .int 0, .int 0, .int 0, .int 0, .int 0, .long 0, .int 0, .int 0, .int 0, .int (-1), .ref (mm 6), .ref (mm 7), .ref (mm 8), .ref (mm 9), .ref (mm 10), .ref (mm 11), .ref (mm 12), .ref (mm 13), .int 0, .ref (mm 14), .ref (mm 15), .ref (mm 16), .ref (mm 17), .int 0, .int 0, .int 0, .ref (mm 18), .ref (mm 19), .int 0, .int 0, .ref (mm 20), .ref (mm 21), .ref (mm 22), .int 0, .int 0, .int 0, .int 0, .ref (mm 23), .ref (mm 24), .ref (mm 25), .int 0])), ((mm 1), .inl (E.2.2 0, 4, .inl wd))] 84 11441
    refine mp_run hF mp_tabL_ok [mp_i (.aload_n 0), mp_i (.iload_n 3), mp_c (.iconst 3) 3, mp_i .iadd] (by decide +kernel) ?_
    intro z144 h145
    obtain rfl : z144 = 3 := h145.trans (by decide)
    show mp_W E X 4 2200 [(3, .int 0), (2, .ref q2), (1, .ref q1), (0, .ref b)] [.int 3, .ref b, .int (xs 2), .int (xs 1), .ref q2, .int (-6)] [(q2, .inr (10, [.int 0, .ref (mm 1), .ref (mm 2), .ref (mm 3), .ref (mm 4), .ref (mm 5), .int 0, .int 0, .int 0, .int 0, .int 0, .long 0, .int 0, .int 0, .int 0, .int (-1), .ref (mm 6), .ref (mm 7), .ref (mm 8), .ref (mm 9), .ref (mm 10), .ref (mm 11), .ref (mm 12), .ref (mm 13), .int 0, .ref (mm 14), .ref (mm 15), .ref (mm 16), .ref (mm 17), .int 0, .int 0, .int 0, .ref (mm 18), .ref (mm 19), .int 0, .int 0, .ref (mm 20), .ref (mm 21), .ref (mm 22), .int 0, .int 0, .int 0, .int 0, .ref (mm 23), .ref (mm 24), .ref (mm 25), .int 0])), ((mm 1), .inl (E.2.2 0, 4, .inl wd))] 84 11441
    refine mp_lsld hL 3 (by decide) (by decide) (by decide) (by decide +kernel) ?_
    show mp_W E X 4 2201 [(3, .int 0), (2, .ref q2), (1, .ref q1), (0, .ref b)] [.int (xs 3), .int (xs 2), .int (xs 1), .ref q2, .int (-6)] [(q2, .inr (10, [.int 0, .ref (mm 1), .ref (mm 2), .ref (mm 3), .ref (mm 4), .ref (mm 5), .int 0, .int 0, .int 0, .int 0, .int 0, .long 0, .int 0, .int 0, .int 0, .int (-1), .ref (mm 6), .ref (mm 7), .ref (mm 8), .ref (mm 9), .ref (mm 10), .ref (mm 11), .ref (mm 12), .ref (mm 13), .int 0, .ref (mm 14), .ref (mm 15), .ref (mm 16), .ref (mm 17), .int 0, .int 0, .int 0, .ref (mm 18), .ref (mm 19), .int 0, .int 0, .ref (mm 20), .ref (mm 21), .ref (mm 22), .int 0, .int 0, .int 0, .int 0, .ref (mm 23), .ref (mm 24), .ref (mm 25), .int 0])), ((mm 1), .inl (E.2.2 0, 4, .inl wd))] 84 11441
    refine mp_run hF mp_tabL_ok [mp_i (.aload_n 0), mp_i (.iload_n 3), mp_c (.iconst 4) 4, mp_i .iadd] (by decide +kernel) ?_
    intro z146 h147
    obtain rfl : z146 = 4 := h147.trans (by decide)
    show mp_W E X 4 2205 [(3, .int 0), (2, .ref q2), (1, .ref q1), (0, .ref b)] [.int 4, .ref b, .int (xs 3), .int (xs 2), .int (xs 1), .ref q2, .int (-6)] [(q2, .inr (10, [.int 0, .ref (mm 1), .ref (mm 2), .ref (mm 3), .ref (mm 4), .ref (mm 5), .int 0, .int 0, .int 0, .int 0, .int 0, .long 0, .int 0, .int 0, .int 0, .int (-1), .ref (mm 6), .ref (mm 7), .ref (mm 8), .ref (mm 9), .ref (mm 10), .ref (mm 11), .ref (mm 12), .ref (mm 13), .int 0, .ref (mm 14), .ref (mm 15), .ref (mm 16), .ref (mm 17), .int 0, .int 0, .int 0, .ref (mm 18), .ref (mm 19), .int 0, .int 0, .ref (mm 20), .ref (mm 21), .ref (mm 22), .int 0, .int 0, .int 0, .int 0, .ref (mm 23), .ref (mm 24), .ref (mm 25), .int 0])), ((mm 1), .inl (E.2.2 0, 4, .inl wd))] 84 11441
    refine mp_lsld hL 4 (by decide) (by decide) (by decide) (by decide +kernel) ?_
    show mp_W E X 4 2206 [(3, .int 0), (2, .ref q2), (1, .ref q1), (0, .ref b)] [.int (xs 4), .int (xs 3), .int (xs 2), .int (xs 1), .ref q2, .int (-6)] [(q2, .inr (10, [.int 0, .ref (mm 1), .ref (mm 2), .ref (mm 3), .ref (mm 4), .ref (mm 5), .int 0, .int 0, .int 0, .int 0, .int 0, .long 0, .int 0, .int 0, .int 0, .int (-1), .ref (mm 6), .ref (mm 7), .ref (mm 8), .ref (mm 9), .ref (mm 10), .ref (mm 11), .ref (mm 12), .ref (mm 13), .int 0, .ref (mm 14), .ref (mm 15), .ref (mm 16), .ref (mm 17), .int 0, .int 0, .int 0, .ref (mm 18), .ref (mm 19), .int 0, .int 0, .ref (mm 20), .ref (mm 21), .ref (mm 22), .int 0, .int 0, .int 0, .int 0, .ref (mm 23), .ref (mm 24), .ref (mm 25), .int 0])), ((mm 1), .inl (E.2.2 0, 4, .inl wd))] 84 11441
    refine mp_run hF mp_tabL_ok [mp_i (.aload_n 0), mp_i (.iload_n 3), mp_c (.iconst 5) 5, mp_i .iadd] (by decide +kernel) ?_
    intro z148 h149
    obtain rfl : z148 = 5 := h149.trans (by decide)
    show mp_W E X 4 2210 [(3, .int 0), (2, .ref q2), (1, .ref q1), (0, .ref b)] [.int 5, .ref b, .int (xs 4), .int (xs 3), .int (xs 2), .int (xs 1), .ref q2, .int (-6)] [(q2, .inr (10, [.int 0, .ref (mm 1), .ref (mm 2), .ref (mm 3), .ref (mm 4), .ref (mm 5), .int 0, .int 0, .int 0, .int 0, .int 0, .long 0, .int 0, .int 0, .int 0, .int (-1), .ref (mm 6), .ref (mm 7), .ref (mm 8), .ref (mm 9), .ref (mm 10), .ref (mm 11), .ref (mm 12), .ref (mm 13), .int 0, .ref (mm 14), .ref (mm 15), .ref (mm 16), .ref (mm 17), .int 0, .int 0, .int 0, .ref (mm 18), .ref (mm 19), .int 0, .int 0, .ref (mm 20), .ref (mm 21), .ref (mm 22), .int 0, .int 0, .int 0, .int 0, .ref (mm 23), .ref (mm 24), .ref (mm 25), .int 0])), ((mm 1), .inl (E.2.2 0, 4, .inl wd))] 84 11441
    refine mp_lsld hL 5 (by decide) (by decide) (by decide) (by decide +kernel) ?_
    show mp_W E X 4 2211 [(3, .int 0), (2, .ref q2), (1, .ref q1), (0, .ref b)] [.int (xs 5), .int (xs 4), .int (xs 3), .int (xs 2), .int (xs 1), .ref q2, .int (-6)] [(q2, .inr (10, [.int 0, .ref (mm 1), .ref (mm 2), .ref (mm 3), .ref (mm 4), .ref (mm 5), .int 0, .int 0, .int 0, .int 0, .int 0, .long 0, .int 0, .int 0, .int 0, .int (-1), .ref (mm 6), .ref (mm 7), .ref (mm 8), .ref (mm 9), .ref (mm 10), .ref (mm 11), .ref (mm 12), .ref (mm 13), .int 0, .ref (mm 14), .ref (mm 15), .ref (mm 16), .ref (mm 17), .int 0, .int 0, .int 0, .ref (mm 18), .ref (mm 19), .int 0, .int 0, .ref (mm 20), .ref (mm 21), .ref (mm 22), .int 0, .int 0, .int 0, .int 0, .ref (mm 23), .ref (mm 24), .ref (mm 25), .int 0])), ((mm 1), .inl (E.2.2 0, 4, .inl wd))] 84 11441
    refine mp_callV hF (As := [.int (xs 1), .int (xs 2), .int (xs 3), .int (xs 4), .int (xs 5)]) (rest := [.int (-6)]) (wr := []) (aX10_paste_197 E q2 (mm 1) (mm 2) (mm 3) (mm 4) (mm 5) (mm 6) (mm 7) (mm 8) (mm 9) (mm 10) (mm 11) (mm 12) (mm 13) (mm 14) (mm 15) (mm 16) (mm 17) (mm 18) (mm 19) (mm 20) (mm 21) (mm 22) (mm 23) (mm 24) (mm 25) wd (xs 1) (xs 2) (xs 3) (xs 4) (xs 5) hwd) mp_lkL_262 0 rfl [0, 1] [] rfl rfl rfl rfl rfl ⟨(Nat.le_of_ble_eq_true rfl), (Nat.le_of_ble_eq_true rfl), (Nat.le_of_ble_eq_true rfl), (Nat.le_of_ble_eq_true rfl)⟩ (Nat.le_of_ble_eq_true rfl) (by decide +kernel) (fun v150 w151 h152 => ?_)
    rcases h152 with ⟨rfl, c153, rfl⟩ | ⟨rfl, c154, c155, rfl⟩ | ⟨rfl, c156, c157, c158, rfl⟩ | ⟨rfl, c159, c160, c161, c162, rfl⟩ | ⟨rfl, c163, c164, c165, c166, rfl⟩
    · skip
      have c153 : (xs 1).toInt < 0 := c153
      exfalso; omega
    · skip
      have c154 : 0 ≤ (xs 1).toInt := c154
      have c155 : 3 < (xs 1).toInt := c155
      exfalso; omega
    · skip
      have c156 : 0 ≤ (xs 1).toInt := c156
      have c157 : (xs 1).toInt ≤ 3 := c157
      have c158 : (xs 3).toInt < 0 := c158
      exfalso; omega
    · skip
      have c159 : 0 ≤ (xs 1).toInt := c159
      have c160 : (xs 1).toInt ≤ 3 := c160
      have c161 : 0 ≤ (xs 3).toInt := c161
      have c162 : 3 < (xs 3).toInt := c162
      exfalso; omega
    · skip
      have c163 : 0 ≤ (xs 1).toInt := c163
      have c164 : (xs 1).toInt ≤ 3 := c164
      have c165 : 0 ≤ (xs 3).toInt := c165
      have c166 : (xs 3).toInt ≤ 3 := c166
      show mp_W E X 4 2214 [(3, .int 0), (2, .ref q2), (1, .ref q1), (0, .ref b)] [.int (-6), .int (-6)] [] 84 11441
      refine mp_run hF mp_tabL_ok [mp_h (.if_icmp .eq 5) [2219]] (by decide +kernel) ?_
      refine And.intro (fun _ => ?_) (fun c167 => absurd c167 (by decide))
      show mp_W E X 4 2219 [(3, .int 0), (2, .ref q2), (1, .ref q1), (0, .ref b)] [] [] 84 11441
      exact mp_sub [3, 0] rfl [] rfl rfl (mp_lw_next hL (Nat.le_of_ble_eq_true rfl) (Nat.le_of_ble_eq_true rfl))
