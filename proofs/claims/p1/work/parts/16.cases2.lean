set_option maxHeartbeats 4000000 in
set_option maxRecDepth 100000 in
theorem mp_case_27 {E : mp_E} {X : mp_X} {b : Nat} {xs : Nat → Int32} (hL : mp_Lw E X b 6 xs) (q1 q2 : Nat) (bb mm : Nat → Nat) (vs ln wd : Nat → Int32) (hln : ∀ j, j < 4 → ln j = -1) (hwd : ∀ j, j < 4 → wd j = -1) : mp_W E X 4 1009 [(3, .int 0), (2, .ref q2), (1, .ref q1), (0, .ref b)] [] (mp_w0 E q1 q2 bb mm vs ln wd) 84 11441 := by
  have hF : mp_F E X (RL, code, 4, (2048, 600000, 7302250, 84000), ret, false) := hL.1
  show mp_W E X 4 1009 [(3, .int 0), (2, .ref q2), (1, .ref q1), (0, .ref b)] [] (mp_w0 E q1 q2 bb mm vs ln wd) 84 11441
  refine mp_run hF mp_tabL_ok [mp_i (.aload_n 1), mp_i (.aload_n 0), mp_i (.iload_n 3), mp_c (.iconst 1) 1, mp_i .iadd] (by decide +kernel) ?_
  intro z1 h2
  obtain rfl : z1 = 1 := h2.trans (by decide)
  show mp_W E X 4 1014 [(3, .int 0), (2, .ref q2), (1, .ref q1), (0, .ref b)] [.int 1, .ref b, .ref q1] (mp_w0 E q1 q2 bb mm vs ln wd) 84 11441
  refine mp_lsld hL 1 (by decide) (by decide) (by decide) (by decide +kernel) ?_
  show mp_W E X 4 1015 [(3, .int 0), (2, .ref q2), (1, .ref q1), (0, .ref b)] [.int (xs 1), .ref q1] (mp_w0 E q1 q2 bb mm vs ln wd) 84 11441
  refine mp_callV hF (As := [.int (xs 1)]) (rest := []) (wr := [(q2, .inr (10, [.int 0, .ref (mm 1), .ref (mm 2), .ref (mm 3), .ref (mm 4), .ref (mm 5), .int 0, .int 0, .int 0, .int 0, .int 0, .long 0, .int 0, .int 0, .int 0, .int (-1), .ref (mm 6), .ref (mm 7), .ref (mm 8), .ref (mm 9), .ref (mm 10), .ref (mm 11), .ref (mm 12), .ref (mm 13), .int 0, .ref (mm 14), .ref (mm 15), .ref (mm 16), .ref (mm 17), .int 0, .int 0, .int 0, .ref (mm 18), .ref (mm 19), .int 0, .int 0, .ref (mm 20), .ref (mm 21), .ref (mm 22), .int 0, .int 0, .int 0, .int 0, .ref (mm 23), .ref (mm 24), .ref (mm 25), .int 0])), ((mm 7), .inl (E.2.2 0, 25, .inl (fun _ => 0)))]) (aX9_sails_97 E q1 (bb 16) (bb 17) (bb 1) (bb 36) (bb 37) (bb 40) (bb 46) (bb 49) (bb 52) (bb 54) (bb 30) (bb 31) (bb 32) (bb 33) (bb 34) (bb 35) (bb 18) (bb 19) (bb 20) (bb 21) (bb 22) (bb 23) (bb 24) (bb 25) (bb 26) (bb 27) (bb 28) (bb 29) (xs 1)) mp_lkL_126 0 rfl [0, 16, 17] [58, 65] rfl rfl rfl rfl rfl ⟨(Nat.le_of_ble_eq_true rfl), (Nat.le_of_ble_eq_true rfl), (Nat.le_of_ble_eq_true rfl), (Nat.le_of_ble_eq_true rfl)⟩ (Nat.le_of_ble_eq_true rfl) (by decide +kernel) (fun v3 w4 h5 => ?_)
  obtain ⟨rfl, rfl⟩ := h5
  show mp_W E X 4 1018 [(3, .int 0), (2, .ref q2), (1, .ref q1), (0, .ref b)] [.int (-2)] [(q2, .inr (10, [.int 0, .ref (mm 1), .ref (mm 2), .ref (mm 3), .ref (mm 4), .ref (mm 5), .int 0, .int 0, .int 0, .int 0, .int 0, .long 0, .int 0, .int 0, .int 0, .int (-1), .ref (mm 6), .ref (mm 7), .ref (mm 8), .ref (mm 9), .ref (mm 10), .ref (mm 11), .ref (mm 12), .ref (mm 13), .int 0, .ref (mm 14), .ref (mm 15), .ref (mm 16), .ref (mm 17), .int 0, .int 0, .int 0, .ref (mm 18), .ref (mm 19), .int 0, .int 0, .ref (mm 20), .ref (mm 21), .ref (mm 22), .int 0, .int 0, .int 0, .int 0, .ref (mm 23), .ref (mm 24), .ref (mm 25), .int 0])), ((mm 7), .inl (E.2.2 0, 25, .inl (fun _ => 0)))] 84 11441
  refine mp_run hF mp_tabL_ok [mp_i (.aload_n 2), mp_i (.aload_n 0), mp_i (.iload_n 3), mp_c (.iconst 1) 1, mp_i .iadd] (by decide +kernel) ?_
  intro z6 h7
  obtain rfl : z6 = 1 := h7.trans (by decide)
  show mp_W E X 4 1023 [(3, .int 0), (2, .ref q2), (1, .ref q1), (0, .ref b)] [.int 1, .ref b, .ref q2, .int (-2)] [(q2, .inr (10, [.int 0, .ref (mm 1), .ref (mm 2), .ref (mm 3), .ref (mm 4), .ref (mm 5), .int 0, .int 0, .int 0, .int 0, .int 0, .long 0, .int 0, .int 0, .int 0, .int (-1), .ref (mm 6), .ref (mm 7), .ref (mm 8), .ref (mm 9), .ref (mm 10), .ref (mm 11), .ref (mm 12), .ref (mm 13), .int 0, .ref (mm 14), .ref (mm 15), .ref (mm 16), .ref (mm 17), .int 0, .int 0, .int 0, .ref (mm 18), .ref (mm 19), .int 0, .int 0, .ref (mm 20), .ref (mm 21), .ref (mm 22), .int 0, .int 0, .int 0, .int 0, .ref (mm 23), .ref (mm 24), .ref (mm 25), .int 0])), ((mm 7), .inl (E.2.2 0, 25, .inl (fun _ => 0)))] 84 11441
  refine mp_lsld hL 1 (by decide) (by decide) (by decide) (by decide +kernel) ?_
  show mp_W E X 4 1024 [(3, .int 0), (2, .ref q2), (1, .ref q1), (0, .ref b)] [.int (xs 1), .ref q2, .int (-2)] [(q2, .inr (10, [.int 0, .ref (mm 1), .ref (mm 2), .ref (mm 3), .ref (mm 4), .ref (mm 5), .int 0, .int 0, .int 0, .int 0, .int 0, .long 0, .int 0, .int 0, .int 0, .int (-1), .ref (mm 6), .ref (mm 7), .ref (mm 8), .ref (mm 9), .ref (mm 10), .ref (mm 11), .ref (mm 12), .ref (mm 13), .int 0, .ref (mm 14), .ref (mm 15), .ref (mm 16), .ref (mm 17), .int 0, .int 0, .int 0, .ref (mm 18), .ref (mm 19), .int 0, .int 0, .ref (mm 20), .ref (mm 21), .ref (mm 22), .int 0, .int 0, .int 0, .int 0, .ref (mm 23), .ref (mm 24), .ref (mm 25), .int 0])), ((mm 7), .inl (E.2.2 0, 25, .inl (fun _ => 0)))] 84 11441
  refine mp_callV hF (As := [.int (xs 1)]) (rest := [.int (-2)]) (wr := []) (aX10_sails_98 E q2 (mm 7) (mm 1) (mm 2) (mm 3) (mm 4) (mm 5) (mm 6) (mm 8) (mm 9) (mm 10) (mm 11) (mm 12) (mm 13) (mm 14) (mm 15) (mm 16) (mm 17) (mm 18) (mm 19) (mm 20) (mm 21) (mm 22) (mm 23) (mm 24) (mm 25) (xs 1)) mp_lkL_129 0 rfl [0, 1] [] rfl rfl rfl rfl rfl ⟨(Nat.le_of_ble_eq_true rfl), (Nat.le_of_ble_eq_true rfl), (Nat.le_of_ble_eq_true rfl), (Nat.le_of_ble_eq_true rfl)⟩ (Nat.le_of_ble_eq_true rfl) (by decide +kernel) (fun v8 w9 h10 => ?_)
  obtain ⟨rfl, rfl⟩ := h10
  show mp_W E X 4 1027 [(3, .int 0), (2, .ref q2), (1, .ref q1), (0, .ref b)] [.int (-2), .int (-2)] [] 84 11441
  refine mp_run hF mp_tabL_ok [mp_h (.if_icmp .eq 1192) [2219]] (by decide +kernel) ?_
  refine And.intro (fun _ => ?_) (fun c11 => absurd c11 (by decide))
  show mp_W E X 4 2219 [(3, .int 0), (2, .ref q2), (1, .ref q1), (0, .ref b)] [] [] 84 11441
  exact mp_sub [3, 0] rfl [] rfl rfl (mp_lw_next hL (Nat.le_of_ble_eq_true rfl) (Nat.le_of_ble_eq_true rfl))

set_option maxHeartbeats 4000000 in
set_option maxRecDepth 100000 in
theorem mp_case_28 {E : mp_E} {X : mp_X} {b : Nat} {xs : Nat → Int32} (hL : mp_Lw E X b 6 xs) (q1 q2 : Nat) (bb mm : Nat → Nat) (vs ln wd : Nat → Int32) (hln : ∀ j, j < 4 → ln j = -1) (hwd : ∀ j, j < 4 → wd j = -1) : mp_W E X 4 1032 [(3, .int 0), (2, .ref q2), (1, .ref q1), (0, .ref b)] [] (mp_w0 E q1 q2 bb mm vs ln wd) 84 11441 := by
  have hF : mp_F E X (RL, code, 4, (2048, 600000, 7302250, 84000), ret, false) := hL.1
  show mp_W E X 4 1032 [(3, .int 0), (2, .ref q2), (1, .ref q1), (0, .ref b)] [] (mp_w0 E q1 q2 bb mm vs ln wd) 84 11441
  refine mp_run hF mp_tabL_ok [mp_i (.aload_n 1), mp_i (.aload_n 0), mp_i (.iload_n 3), mp_c (.iconst 1) 1, mp_i .iadd] (by decide +kernel) ?_
  intro z1 h2
  obtain rfl : z1 = 1 := h2.trans (by decide)
  show mp_W E X 4 1037 [(3, .int 0), (2, .ref q2), (1, .ref q1), (0, .ref b)] [.int 1, .ref b, .ref q1] (mp_w0 E q1 q2 bb mm vs ln wd) 84 11441
  refine mp_lsld hL 1 (by decide) (by decide) (by decide) (by decide +kernel) ?_
  show mp_W E X 4 1038 [(3, .int 0), (2, .ref q2), (1, .ref q1), (0, .ref b)] [.int (xs 1), .ref q1] (mp_w0 E q1 q2 bb mm vs ln wd) 84 11441
  refine mp_run hF mp_tabL_ok [mp_i (.aload_n 0), mp_i (.iload_n 3), mp_c (.iconst 2) 2, mp_i .iadd] (by decide +kernel) ?_
  intro z3 h4
  obtain rfl : z3 = 2 := h4.trans (by decide)
  show mp_W E X 4 1042 [(3, .int 0), (2, .ref q2), (1, .ref q1), (0, .ref b)] [.int 2, .ref b, .int (xs 1), .ref q1] (mp_w0 E q1 q2 bb mm vs ln wd) 84 11441
  refine mp_lsld hL 2 (by decide) (by decide) (by decide) (by decide +kernel) ?_
  show mp_W E X 4 1043 [(3, .int 0), (2, .ref q2), (1, .ref q1), (0, .ref b)] [.int (xs 2), .int (xs 1), .ref q1] (mp_w0 E q1 q2 bb mm vs ln wd) 84 11441
  refine mp_callV hF (As := [.int (xs 1), .int (xs 2)]) (rest := []) (wr := [(q2, .inr (10, [.int 0, .ref (mm 1), .ref (mm 2), .ref (mm 3), .ref (mm 4), .ref (mm 5), .int 0, .int 0, .int 0, .int 0, .int 0, .long 0, .int 0, .int 0, .int 0, .int (-1), .ref (mm 6), .ref (mm 7), .ref (mm 8), .ref (mm 9), .ref (mm 10), .ref (mm 11), .ref (mm 12), .ref (mm 13), .int 0, .ref (mm 14), .ref (mm 15), .ref (mm 16), .ref (mm 17), .int 0, .int 0, .int 0, .ref (mm 18), .ref (mm 19), .int 0, .int 0, .ref (mm 20), .ref (mm 21), .ref (mm 22), .int 0, .int 0, .int 0, .int 0, .ref (mm 23), .ref (mm 24), .ref (mm 25), .int 0])), ((mm 7), .inl (E.2.2 0, 25, .inl (fun _ => 0)))]) (aX9_keeps_100 E q1 (bb 16) (bb 17) (bb 1) (bb 36) (bb 37) (bb 40) (bb 46) (bb 49) (bb 52) (bb 54) (bb 30) (bb 31) (bb 32) (bb 33) (bb 34) (bb 35) (bb 18) (bb 19) (bb 20) (bb 21) (bb 22) (bb 23) (bb 24) (bb 25) (bb 26) (bb 27) (bb 28) (bb 29) (xs 1) (xs 2)) mp_lkL_130 0 rfl [0, 16, 17] [58, 65] rfl rfl rfl rfl rfl ⟨(Nat.le_of_ble_eq_true rfl), (Nat.le_of_ble_eq_true rfl), (Nat.le_of_ble_eq_true rfl), (Nat.le_of_ble_eq_true rfl)⟩ (Nat.le_of_ble_eq_true rfl) (by decide +kernel) (fun v5 w6 h7 => ?_)
  obtain ⟨rfl, rfl⟩ := h7
  show mp_W E X 4 1046 [(3, .int 0), (2, .ref q2), (1, .ref q1), (0, .ref b)] [.int (-2)] [(q2, .inr (10, [.int 0, .ref (mm 1), .ref (mm 2), .ref (mm 3), .ref (mm 4), .ref (mm 5), .int 0, .int 0, .int 0, .int 0, .int 0, .long 0, .int 0, .int 0, .int 0, .int (-1), .ref (mm 6), .ref (mm 7), .ref (mm 8), .ref (mm 9), .ref (mm 10), .ref (mm 11), .ref (mm 12), .ref (mm 13), .int 0, .ref (mm 14), .ref (mm 15), .ref (mm 16), .ref (mm 17), .int 0, .int 0, .int 0, .ref (mm 18), .ref (mm 19), .int 0, .int 0, .ref (mm 20), .ref (mm 21), .ref (mm 22), .int 0, .int 0, .int 0, .int 0, .ref (mm 23), .ref (mm 24), .ref (mm 25), .int 0])), ((mm 7), .inl (E.2.2 0, 25, .inl (fun _ => 0)))] 84 11441
  refine mp_run hF mp_tabL_ok [mp_i (.aload_n 2), mp_i (.aload_n 0), mp_i (.iload_n 3), mp_c (.iconst 1) 1, mp_i .iadd] (by decide +kernel) ?_
  intro z8 h9
  obtain rfl : z8 = 1 := h9.trans (by decide)
  show mp_W E X 4 1051 [(3, .int 0), (2, .ref q2), (1, .ref q1), (0, .ref b)] [.int 1, .ref b, .ref q2, .int (-2)] [(q2, .inr (10, [.int 0, .ref (mm 1), .ref (mm 2), .ref (mm 3), .ref (mm 4), .ref (mm 5), .int 0, .int 0, .int 0, .int 0, .int 0, .long 0, .int 0, .int 0, .int 0, .int (-1), .ref (mm 6), .ref (mm 7), .ref (mm 8), .ref (mm 9), .ref (mm 10), .ref (mm 11), .ref (mm 12), .ref (mm 13), .int 0, .ref (mm 14), .ref (mm 15), .ref (mm 16), .ref (mm 17), .int 0, .int 0, .int 0, .ref (mm 18), .ref (mm 19), .int 0, .int 0, .ref (mm 20), .ref (mm 21), .ref (mm 22), .int 0, .int 0, .int 0, .int 0, .ref (mm 23), .ref (mm 24), .ref (mm 25), .int 0])), ((mm 7), .inl (E.2.2 0, 25, .inl (fun _ => 0)))] 84 11441
  refine mp_lsld hL 1 (by decide) (by decide) (by decide) (by decide +kernel) ?_
  show mp_W E X 4 1052 [(3, .int 0), (2, .ref q2), (1, .ref q1), (0, .ref b)] [.int (xs 1), .ref q2, .int (-2)] [(q2, .inr (10, [.int 0, .ref (mm 1), .ref (mm 2), .ref (mm 3), .ref (mm 4), .ref (mm 5), .int 0, .int 0, .int 0, .int 0, .int 0, .long 0, .int 0, .int 0, .int 0, .int (-1), .ref (mm 6), .ref (mm 7), .ref (mm 8), .ref (mm 9), .ref (mm 10), .ref (mm 11), .ref (mm 12), .ref (mm 13), .int 0, .ref (mm 14), .ref (mm 15), .ref (mm 16), .ref (mm 17), .int 0, .int 0, .int 0, .ref (mm 18), .ref (mm 19), .int 0, .int 0, .ref (mm 20), .ref (mm 21), .ref (mm 22), .int 0, .int 0, .int 0, .int 0, .ref (mm 23), .ref (mm 24), .ref (mm 25), .int 0])), ((mm 7), .inl (E.2.2 0, 25, .inl (fun _ => 0)))] 84 11441
  refine mp_run hF mp_tabL_ok [mp_i (.aload_n 0), mp_i (.iload_n 3), mp_c (.iconst 2) 2, mp_i .iadd] (by decide +kernel) ?_
  intro z10 h11
  obtain rfl : z10 = 2 := h11.trans (by decide)
  show mp_W E X 4 1056 [(3, .int 0), (2, .ref q2), (1, .ref q1), (0, .ref b)] [.int 2, .ref b, .int (xs 1), .ref q2, .int (-2)] [(q2, .inr (10, [.int 0, .ref (mm 1), .ref (mm 2), .ref (mm 3), .ref (mm 4), .ref (mm 5), .int 0, .int 0, .int 0, .int 0, .int 0, .long 0, .int 0, .int 0, .int 0, .int (-1), .ref (mm 6), .ref (mm 7), .ref (mm 8), .ref (mm 9), .ref (mm 10), .ref (mm 11), .ref (mm 12), .ref (mm 13), .int 0, .ref (mm 14), .ref (mm 15), .ref (mm 16), .ref (mm 17), .int 0, .int 0, .int 0, .ref (mm 18), .ref (mm 19), .int 0, .int 0, .ref (mm 20), .ref (mm 21), .ref (mm 22), .int 0, .int 0, .int 0, .int 0, .ref (mm 23), .ref (mm 24), .ref (mm 25), .int 0])), ((mm 7), .inl (E.2.2 0, 25, .inl (fun _ => 0)))] 84 11441
  refine mp_lsld hL 2 (by decide) (by decide) (by decide) (by decide +kernel) ?_
  show mp_W E X 4 1057 [(3, .int 0), (2, .ref q2), (1, .ref q1), (0, .ref b)] [.int (xs 2), .int (xs 1), .ref q2, .int (-2)] [(q2, .inr (10, [.int 0, .ref (mm 1), .ref (mm 2), .ref (mm 3), .ref (mm 4), .ref (mm 5), .int 0, .int 0, .int 0, .int 0, .int 0, .long 0, .int 0, .int 0, .int 0, .int (-1), .ref (mm 6), .ref (mm 7), .ref (mm 8), .ref (mm 9), .ref (mm 10), .ref (mm 11), .ref (mm 12), .ref (mm 13), .int 0, .ref (mm 14), .ref (mm 15), .ref (mm 16), .ref (mm 17), .int 0, .int 0, .int 0, .ref (mm 18), .ref (mm 19), .int 0, .int 0, .ref (mm 20), .ref (mm 21), .ref (mm 22), .int 0, .int 0, .int 0, .int 0, .ref (mm 23), .ref (mm 24), .ref (mm 25), .int 0])), ((mm 7), .inl (E.2.2 0, 25, .inl (fun _ => 0)))] 84 11441
  refine mp_callV hF (As := [.int (xs 1), .int (xs 2)]) (rest := [.int (-2)]) (wr := []) (aX10_keeps_102 E q2 (mm 7) (mm 1) (mm 2) (mm 3) (mm 4) (mm 5) (mm 6) (mm 8) (mm 9) (mm 10) (mm 11) (mm 12) (mm 13) (mm 14) (mm 15) (mm 16) (mm 17) (mm 18) (mm 19) (mm 20) (mm 21) (mm 22) (mm 23) (mm 24) (mm 25) (xs 1) (xs 2)) mp_lkL_133 0 rfl [0, 1] [] rfl rfl rfl rfl rfl ⟨(Nat.le_of_ble_eq_true rfl), (Nat.le_of_ble_eq_true rfl), (Nat.le_of_ble_eq_true rfl), (Nat.le_of_ble_eq_true rfl)⟩ (Nat.le_of_ble_eq_true rfl) (by decide +kernel) (fun v12 w13 h14 => ?_)
  obtain ⟨rfl, rfl⟩ := h14
  show mp_W E X 4 1060 [(3, .int 0), (2, .ref q2), (1, .ref q1), (0, .ref b)] [.int (-2), .int (-2)] [] 84 11441
  refine mp_run hF mp_tabL_ok [mp_h (.if_icmp .eq 1159) [2219]] (by decide +kernel) ?_
  refine And.intro (fun _ => ?_) (fun c15 => absurd c15 (by decide))
  show mp_W E X 4 2219 [(3, .int 0), (2, .ref q2), (1, .ref q1), (0, .ref b)] [] [] 84 11441
  exact mp_sub [3, 0] rfl [] rfl rfl (mp_lw_next hL (Nat.le_of_ble_eq_true rfl) (Nat.le_of_ble_eq_true rfl))

set_option maxHeartbeats 4000000 in
set_option maxRecDepth 100000 in
theorem mp_case_29 {E : mp_E} {X : mp_X} {b : Nat} {xs : Nat → Int32} (hL : mp_Lw E X b 6 xs) (q1 q2 : Nat) (bb mm : Nat → Nat) (vs ln wd : Nat → Int32) (hln : ∀ j, j < 4 → ln j = -1) (hwd : ∀ j, j < 4 → wd j = -1) : mp_W E X 4 1065 [(3, .int 0), (2, .ref q2), (1, .ref q1), (0, .ref b)] [] (mp_w0 E q1 q2 bb mm vs ln wd) 84 11441 := by
  have hF : mp_F E X (RL, code, 4, (2048, 600000, 7302250, 84000), ret, false) := hL.1
  show mp_W E X 4 1065 [(3, .int 0), (2, .ref q2), (1, .ref q1), (0, .ref b)] [] (mp_w0 E q1 q2 bb mm vs ln wd) 84 11441
  refine mp_run hF mp_tabL_ok [mp_i (.aload_n 1), mp_i (.aload_n 0), mp_i (.iload_n 3), mp_c (.iconst 1) 1, mp_i .iadd] (by decide +kernel) ?_
  intro z1 h2
  obtain rfl : z1 = 1 := h2.trans (by decide)
  show mp_W E X 4 1070 [(3, .int 0), (2, .ref q2), (1, .ref q1), (0, .ref b)] [.int 1, .ref b, .ref q1] (mp_w0 E q1 q2 bb mm vs ln wd) 84 11441
  refine mp_lsld hL 1 (by decide) (by decide) (by decide) (by decide +kernel) ?_
  show mp_W E X 4 1071 [(3, .int 0), (2, .ref q2), (1, .ref q1), (0, .ref b)] [.int (xs 1), .ref q1] (mp_w0 E q1 q2 bb mm vs ln wd) 84 11441
  refine mp_run hF mp_tabL_ok [mp_i (.aload_n 0), mp_i (.iload_n 3), mp_c (.iconst 2) 2, mp_i .iadd] (by decide +kernel) ?_
  intro z3 h4
  obtain rfl : z3 = 2 := h4.trans (by decide)
  show mp_W E X 4 1075 [(3, .int 0), (2, .ref q2), (1, .ref q1), (0, .ref b)] [.int 2, .ref b, .int (xs 1), .ref q1] (mp_w0 E q1 q2 bb mm vs ln wd) 84 11441
  refine mp_lsld hL 2 (by decide) (by decide) (by decide) (by decide +kernel) ?_
  show mp_W E X 4 1076 [(3, .int 0), (2, .ref q2), (1, .ref q1), (0, .ref b)] [.int (xs 2), .int (xs 1), .ref q1] (mp_w0 E q1 q2 bb mm vs ln wd) 84 11441
  refine mp_run hF mp_tabL_ok [mp_i (.aload_n 0), mp_i (.iload_n 3), mp_c (.iconst 3) 3, mp_i .iadd] (by decide +kernel) ?_
  intro z5 h6
  obtain rfl : z5 = 3 := h6.trans (by decide)
  show mp_W E X 4 1080 [(3, .int 0), (2, .ref q2), (1, .ref q1), (0, .ref b)] [.int 3, .ref b, .int (xs 2), .int (xs 1), .ref q1] (mp_w0 E q1 q2 bb mm vs ln wd) 84 11441
  refine mp_lsld hL 3 (by decide) (by decide) (by decide) (by decide +kernel) ?_
  show mp_W E X 4 1081 [(3, .int 0), (2, .ref q2), (1, .ref q1), (0, .ref b)] [.int (xs 3), .int (xs 2), .int (xs 1), .ref q1] (mp_w0 E q1 q2 bb mm vs ln wd) 84 11441
  refine mp_callV hF (As := [.int (xs 1), .int (xs 2), .int (xs 3)]) (rest := []) (wr := [(q2, .inr (10, [.int 0, .ref (mm 1), .ref (mm 2), .ref (mm 3), .ref (mm 4), .ref (mm 5), .int 0, .int 0, .int 0, .int 0, .int 0, .long 0, .int 0, .int 0, .int 0, .int (-1), .ref (mm 6), .ref (mm 7), .ref (mm 8), .ref (mm 9), .ref (mm 10), .ref (mm 11), .ref (mm 12), .ref (mm 13), .int 0, .ref (mm 14), .ref (mm 15), .ref (mm 16), .ref (mm 17), .int 0, .int 0, .int 0, .ref (mm 18), .ref (mm 19), .int 0, .int 0, .ref (mm 20), .ref (mm 21), .ref (mm 22), .int 0, .int 0, .int 0, .int 0, .ref (mm 23), .ref (mm 24), .ref (mm 25), .int 0])), ((mm 7), .inl (E.2.2 0, 25, .inl (fun _ => 0)))]) (aX9_plan_103 E q1 (bb 16) (bb 17) (bb 1) (bb 36) (bb 37) (bb 40) (bb 46) (bb 49) (bb 52) (bb 54) (bb 30) (bb 31) (bb 32) (bb 33) (bb 34) (bb 35) (bb 18) (bb 19) (bb 20) (bb 21) (bb 22) (bb 23) (bb 24) (bb 25) (bb 26) (bb 27) (bb 28) (bb 29) (xs 1) (xs 2) (xs 3)) mp_lkL_134 0 rfl [0, 16, 17] [58, 65] rfl rfl rfl rfl rfl ⟨(Nat.le_of_ble_eq_true rfl), (Nat.le_of_ble_eq_true rfl), (Nat.le_of_ble_eq_true rfl), (Nat.le_of_ble_eq_true rfl)⟩ (Nat.le_of_ble_eq_true rfl) (by decide +kernel) (fun v7 w8 h9 => ?_)
  obtain ⟨rfl, rfl⟩ := h9
  show mp_W E X 4 1084 [(3, .int 0), (2, .ref q2), (1, .ref q1), (0, .ref b)] [.int (-2)] [(q2, .inr (10, [.int 0, .ref (mm 1), .ref (mm 2), .ref (mm 3), .ref (mm 4), .ref (mm 5), .int 0, .int 0, .int 0, .int 0, .int 0, .long 0, .int 0, .int 0, .int 0, .int (-1), .ref (mm 6), .ref (mm 7), .ref (mm 8), .ref (mm 9), .ref (mm 10), .ref (mm 11), .ref (mm 12), .ref (mm 13), .int 0, .ref (mm 14), .ref (mm 15), .ref (mm 16), .ref (mm 17), .int 0, .int 0, .int 0, .ref (mm 18), .ref (mm 19), .int 0, .int 0, .ref (mm 20), .ref (mm 21), .ref (mm 22), .int 0, .int 0, .int 0, .int 0, .ref (mm 23), .ref (mm 24), .ref (mm 25), .int 0])), ((mm 7), .inl (E.2.2 0, 25, .inl (fun _ => 0)))] 84 11441
  refine mp_run hF mp_tabL_ok [mp_i (.aload_n 2), mp_i (.aload_n 0), mp_i (.iload_n 3), mp_c (.iconst 1) 1, mp_i .iadd] (by decide +kernel) ?_
  intro z10 h11
  obtain rfl : z10 = 1 := h11.trans (by decide)
  show mp_W E X 4 1089 [(3, .int 0), (2, .ref q2), (1, .ref q1), (0, .ref b)] [.int 1, .ref b, .ref q2, .int (-2)] [(q2, .inr (10, [.int 0, .ref (mm 1), .ref (mm 2), .ref (mm 3), .ref (mm 4), .ref (mm 5), .int 0, .int 0, .int 0, .int 0, .int 0, .long 0, .int 0, .int 0, .int 0, .int (-1), .ref (mm 6), .ref (mm 7), .ref (mm 8), .ref (mm 9), .ref (mm 10), .ref (mm 11), .ref (mm 12), .ref (mm 13), .int 0, .ref (mm 14), .ref (mm 15), .ref (mm 16), .ref (mm 17), .int 0, .int 0, .int 0, .ref (mm 18), .ref (mm 19), .int 0, .int 0, .ref (mm 20), .ref (mm 21), .ref (mm 22), .int 0, .int 0, .int 0, .int 0, .ref (mm 23), .ref (mm 24), .ref (mm 25), .int 0])), ((mm 7), .inl (E.2.2 0, 25, .inl (fun _ => 0)))] 84 11441
  refine mp_lsld hL 1 (by decide) (by decide) (by decide) (by decide +kernel) ?_
  show mp_W E X 4 1090 [(3, .int 0), (2, .ref q2), (1, .ref q1), (0, .ref b)] [.int (xs 1), .ref q2, .int (-2)] [(q2, .inr (10, [.int 0, .ref (mm 1), .ref (mm 2), .ref (mm 3), .ref (mm 4), .ref (mm 5), .int 0, .int 0, .int 0, .int 0, .int 0, .long 0, .int 0, .int 0, .int 0, .int (-1), .ref (mm 6), .ref (mm 7), .ref (mm 8), .ref (mm 9), .ref (mm 10), .ref (mm 11), .ref (mm 12), .ref (mm 13), .int 0, .ref (mm 14), .ref (mm 15), .ref (mm 16), .ref (mm 17), .int 0, .int 0, .int 0, .ref (mm 18), .ref (mm 19), .int 0, .int 0, .ref (mm 20), .ref (mm 21), .ref (mm 22), .int 0, .int 0, .int 0, .int 0, .ref (mm 23), .ref (mm 24), .ref (mm 25), .int 0])), ((mm 7), .inl (E.2.2 0, 25, .inl (fun _ => 0)))] 84 11441
  refine mp_run hF mp_tabL_ok [mp_i (.aload_n 0), mp_i (.iload_n 3), mp_c (.iconst 2) 2, mp_i .iadd] (by decide +kernel) ?_
  intro z12 h13
  obtain rfl : z12 = 2 := h13.trans (by decide)
  show mp_W E X 4 1094 [(3, .int 0), (2, .ref q2), (1, .ref q1), (0, .ref b)] [.int 2, .ref b, .int (xs 1), .ref q2, .int (-2)] [(q2, .inr (10, [.int 0, .ref (mm 1), .ref (mm 2), .ref (mm 3), .ref (mm 4), .ref (mm 5), .int 0, .int 0, .int 0, .int 0, .int 0, .long 0, .int 0, .int 0, .int 0, .int (-1), .ref (mm 6), .ref (mm 7), .ref (mm 8), .ref (mm 9), .ref (mm 10), .ref (mm 11), .ref (mm 12), .ref (mm 13), .int 0, .ref (mm 14), .ref (mm 15), .ref (mm 16), .ref (mm 17), .int 0, .int 0, .int 0, .ref (mm 18), .ref (mm 19), .int 0, .int 0, .ref (mm 20), .ref (mm 21), .ref (mm 22), .int 0, .int 0, .int 0, .int 0, .ref (mm 23), .ref (mm 24), .ref (mm 25), .int 0])), ((mm 7), .inl (E.2.2 0, 25, .inl (fun _ => 0)))] 84 11441
  refine mp_lsld hL 2 (by decide) (by decide) (by decide) (by decide +kernel) ?_
  show mp_W E X 4 1095 [(3, .int 0), (2, .ref q2), (1, .ref q1), (0, .ref b)] [.int (xs 2), .int (xs 1), .ref q2, .int (-2)] [(q2, .inr (10, [.int 0, .ref (mm 1), .ref (mm 2), .ref (mm 3), .ref (mm 4), .ref (mm 5), .int 0, .int 0, .int 0, .int 0, .int 0, .long 0, .int 0, .int 0, .int 0, .int (-1), .ref (mm 6), .ref (mm 7), .ref (mm 8), .ref (mm 9), .ref (mm 10), .ref (mm 11), .ref (mm 12), .ref (mm 13), .int 0, .ref (mm 14), .ref (mm 15), .ref (mm 16), .ref (mm 17), .int 0, .int 0, .int 0, .ref (mm 18), .ref (mm 19), .int 0, .int 0, .ref (mm 20), .ref (mm 21), .ref (mm 22), .int 0, .int 0, .int 0, .int 0, .ref (mm 23), .ref (mm 24), .ref (mm 25), .int 0])), ((mm 7), .inl (E.2.2 0, 25, .inl (fun _ => 0)))] 84 11441
  refine mp_run hF mp_tabL_ok [mp_i (.aload_n 0), mp_i (.iload_n 3), mp_c (.iconst 3) 3, mp_i .iadd] (by decide +kernel) ?_
  intro z14 h15
  obtain rfl : z14 = 3 := h15.trans (by decide)
  show mp_W E X 4 1099 [(3, .int 0), (2, .ref q2), (1, .ref q1), (0, .ref b)] [.int 3, .ref b, .int (xs 2), .int (xs 1), .ref q2, .int (-2)] [(q2, .inr (10, [.int 0, .ref (mm 1), .ref (mm 2), .ref (mm 3), .ref (mm 4), .ref (mm 5), .int 0, .int 0, .int 0, .int 0, .int 0, .long 0, .int 0, .int 0, .int 0, .int (-1), .ref (mm 6), .ref (mm 7), .ref (mm 8), .ref (mm 9), .ref (mm 10), .ref (mm 11), .ref (mm 12), .ref (mm 13), .int 0, .ref (mm 14), .ref (mm 15), .ref (mm 16), .ref (mm 17), .int 0, .int 0, .int 0, .ref (mm 18), .ref (mm 19), .int 0, .int 0, .ref (mm 20), .ref (mm 21), .ref (mm 22), .int 0, .int 0, .int 0, .int 0, .ref (mm 23), .ref (mm 24), .ref (mm 25), .int 0])), ((mm 7), .inl (E.2.2 0, 25, .inl (fun _ => 0)))] 84 11441
  refine mp_lsld hL 3 (by decide) (by decide) (by decide) (by decide +kernel) ?_
  show mp_W E X 4 1100 [(3, .int 0), (2, .ref q2), (1, .ref q1), (0, .ref b)] [.int (xs 3), .int (xs 2), .int (xs 1), .ref q2, .int (-2)] [(q2, .inr (10, [.int 0, .ref (mm 1), .ref (mm 2), .ref (mm 3), .ref (mm 4), .ref (mm 5), .int 0, .int 0, .int 0, .int 0, .int 0, .long 0, .int 0, .int 0, .int 0, .int (-1), .ref (mm 6), .ref (mm 7), .ref (mm 8), .ref (mm 9), .ref (mm 10), .ref (mm 11), .ref (mm 12), .ref (mm 13), .int 0, .ref (mm 14), .ref (mm 15), .ref (mm 16), .ref (mm 17), .int 0, .int 0, .int 0, .ref (mm 18), .ref (mm 19), .int 0, .int 0, .ref (mm 20), .ref (mm 21), .ref (mm 22), .int 0, .int 0, .int 0, .int 0, .ref (mm 23), .ref (mm 24), .ref (mm 25), .int 0])), ((mm 7), .inl (E.2.2 0, 25, .inl (fun _ => 0)))] 84 11441
  refine mp_callV hF (As := [.int (xs 1), .int (xs 2), .int (xs 3)]) (rest := [.int (-2)]) (wr := []) (aX10_plan_104 E q2 (mm 7) (mm 1) (mm 2) (mm 3) (mm 4) (mm 5) (mm 6) (mm 8) (mm 9) (mm 10) (mm 11) (mm 12) (mm 13) (mm 14) (mm 15) (mm 16) (mm 17) (mm 18) (mm 19) (mm 20) (mm 21) (mm 22) (mm 23) (mm 24) (mm 25) (xs 1) (xs 2) (xs 3)) mp_lkL_137 0 rfl [0, 1] [] rfl rfl rfl rfl rfl ⟨(Nat.le_of_ble_eq_true rfl), (Nat.le_of_ble_eq_true rfl), (Nat.le_of_ble_eq_true rfl), (Nat.le_of_ble_eq_true rfl)⟩ (Nat.le_of_ble_eq_true rfl) (by decide +kernel) (fun v16 w17 h18 => ?_)
  obtain ⟨rfl, rfl⟩ := h18
  show mp_W E X 4 1103 [(3, .int 0), (2, .ref q2), (1, .ref q1), (0, .ref b)] [.int (-2), .int (-2)] [] 84 11441
  refine mp_run hF mp_tabL_ok [mp_h (.if_icmp .eq 1116) [2219]] (by decide +kernel) ?_
  refine And.intro (fun _ => ?_) (fun c19 => absurd c19 (by decide))
  show mp_W E X 4 2219 [(3, .int 0), (2, .ref q2), (1, .ref q1), (0, .ref b)] [] [] 84 11441
  exact mp_sub [3, 0] rfl [] rfl rfl (mp_lw_next hL (Nat.le_of_ble_eq_true rfl) (Nat.le_of_ble_eq_true rfl))

set_option maxHeartbeats 4000000 in
set_option maxRecDepth 100000 in
theorem mp_case_30 {E : mp_E} {X : mp_X} {b : Nat} {xs : Nat → Int32} (hL : mp_Lw E X b 6 xs) (q1 q2 : Nat) (bb mm : Nat → Nat) (vs ln wd : Nat → Int32) (hln : ∀ j, j < 4 → ln j = -1) (hwd : ∀ j, j < 4 → wd j = -1) : mp_W E X 4 1108 [(3, .int 0), (2, .ref q2), (1, .ref q1), (0, .ref b)] [] (mp_w0 E q1 q2 bb mm vs ln wd) 84 11441 := by
  have hF : mp_F E X (RL, code, 4, (2048, 600000, 7302250, 84000), ret, false) := hL.1
  show mp_W E X 4 1108 [(3, .int 0), (2, .ref q2), (1, .ref q1), (0, .ref b)] [] (mp_w0 E q1 q2 bb mm vs ln wd) 84 11441
  refine mp_run hF mp_tabL_ok [mp_i (.aload_n 1), mp_i (.aload_n 0), mp_i (.iload_n 3), mp_c (.iconst 1) 1, mp_i .iadd] (by decide +kernel) ?_
  intro z1 h2
  obtain rfl : z1 = 1 := h2.trans (by decide)
  show mp_W E X 4 1113 [(3, .int 0), (2, .ref q2), (1, .ref q1), (0, .ref b)] [.int 1, .ref b, .ref q1] (mp_w0 E q1 q2 bb mm vs ln wd) 84 11441
  refine mp_lsld hL 1 (by decide) (by decide) (by decide) (by decide +kernel) ?_
  show mp_W E X 4 1114 [(3, .int 0), (2, .ref q2), (1, .ref q1), (0, .ref b)] [.int (xs 1), .ref q1] (mp_w0 E q1 q2 bb mm vs ln wd) 84 11441
  refine mp_run hF mp_tabL_ok [mp_i (.aload_n 0), mp_i (.iload_n 3), mp_c (.iconst 2) 2, mp_i .iadd] (by decide +kernel) ?_
  intro z3 h4
  obtain rfl : z3 = 2 := h4.trans (by decide)
  show mp_W E X 4 1118 [(3, .int 0), (2, .ref q2), (1, .ref q1), (0, .ref b)] [.int 2, .ref b, .int (xs 1), .ref q1] (mp_w0 E q1 q2 bb mm vs ln wd) 84 11441
  refine mp_lsld hL 2 (by decide) (by decide) (by decide) (by decide +kernel) ?_
  show mp_W E X 4 1119 [(3, .int 0), (2, .ref q2), (1, .ref q1), (0, .ref b)] [.int (xs 2), .int (xs 1), .ref q1] (mp_w0 E q1 q2 bb mm vs ln wd) 84 11441
  refine mp_callV hF (As := [.int (xs 1), .int (xs 2)]) (rest := []) (wr := [(q2, .inr (10, [.int 0, .ref (mm 1), .ref (mm 2), .ref (mm 3), .ref (mm 4), .ref (mm 5), .int 0, .int 0, .int 0, .int 0, .int 0, .long 0, .int 0, .int 0, .int 0, .int (-1), .ref (mm 6), .ref (mm 7), .ref (mm 8), .ref (mm 9), .ref (mm 10), .ref (mm 11), .ref (mm 12), .ref (mm 13), .int 0, .ref (mm 14), .ref (mm 15), .ref (mm 16), .ref (mm 17), .int 0, .int 0, .int 0, .ref (mm 18), .ref (mm 19), .int 0, .int 0, .ref (mm 20), .ref (mm 21), .ref (mm 22), .int 0, .int 0, .int 0, .int 0, .ref (mm 23), .ref (mm 24), .ref (mm 25), .int 0])), ((mm 7), .inl (E.2.2 0, 25, .inl (fun _ => 0)))]) (aX9_lets_105 E q1 (bb 16) (bb 17) (bb 1) (bb 36) (bb 37) (bb 40) (bb 46) (bb 49) (bb 52) (bb 54) (bb 30) (bb 31) (bb 32) (bb 33) (bb 34) (bb 35) (bb 18) (bb 19) (bb 20) (bb 21) (bb 22) (bb 23) (bb 24) (bb 25) (bb 26) (bb 27) (bb 28) (bb 29) (xs 1) (xs 2)) mp_lkL_138 0 rfl [0, 16, 17] [58, 65] rfl rfl rfl rfl rfl ⟨(Nat.le_of_ble_eq_true rfl), (Nat.le_of_ble_eq_true rfl), (Nat.le_of_ble_eq_true rfl), (Nat.le_of_ble_eq_true rfl)⟩ (Nat.le_of_ble_eq_true rfl) (by decide +kernel) (fun v5 w6 h7 => ?_)
  obtain ⟨rfl, rfl⟩ := h7
  show mp_W E X 4 1122 [(3, .int 0), (2, .ref q2), (1, .ref q1), (0, .ref b)] [.int (-2)] [(q2, .inr (10, [.int 0, .ref (mm 1), .ref (mm 2), .ref (mm 3), .ref (mm 4), .ref (mm 5), .int 0, .int 0, .int 0, .int 0, .int 0, .long 0, .int 0, .int 0, .int 0, .int (-1), .ref (mm 6), .ref (mm 7), .ref (mm 8), .ref (mm 9), .ref (mm 10), .ref (mm 11), .ref (mm 12), .ref (mm 13), .int 0, .ref (mm 14), .ref (mm 15), .ref (mm 16), .ref (mm 17), .int 0, .int 0, .int 0, .ref (mm 18), .ref (mm 19), .int 0, .int 0, .ref (mm 20), .ref (mm 21), .ref (mm 22), .int 0, .int 0, .int 0, .int 0, .ref (mm 23), .ref (mm 24), .ref (mm 25), .int 0])), ((mm 7), .inl (E.2.2 0, 25, .inl (fun _ => 0)))] 84 11441
  refine mp_run hF mp_tabL_ok [mp_i (.aload_n 2), mp_i (.aload_n 0), mp_i (.iload_n 3), mp_c (.iconst 1) 1, mp_i .iadd] (by decide +kernel) ?_
  intro z8 h9
  obtain rfl : z8 = 1 := h9.trans (by decide)
  show mp_W E X 4 1127 [(3, .int 0), (2, .ref q2), (1, .ref q1), (0, .ref b)] [.int 1, .ref b, .ref q2, .int (-2)] [(q2, .inr (10, [.int 0, .ref (mm 1), .ref (mm 2), .ref (mm 3), .ref (mm 4), .ref (mm 5), .int 0, .int 0, .int 0, .int 0, .int 0, .long 0, .int 0, .int 0, .int 0, .int (-1), .ref (mm 6), .ref (mm 7), .ref (mm 8), .ref (mm 9), .ref (mm 10), .ref (mm 11), .ref (mm 12), .ref (mm 13), .int 0, .ref (mm 14), .ref (mm 15), .ref (mm 16), .ref (mm 17), .int 0, .int 0, .int 0, .ref (mm 18), .ref (mm 19), .int 0, .int 0, .ref (mm 20), .ref (mm 21), .ref (mm 22), .int 0, .int 0, .int 0, .int 0, .ref (mm 23), .ref (mm 24), .ref (mm 25), .int 0])), ((mm 7), .inl (E.2.2 0, 25, .inl (fun _ => 0)))] 84 11441
  refine mp_lsld hL 1 (by decide) (by decide) (by decide) (by decide +kernel) ?_
  show mp_W E X 4 1128 [(3, .int 0), (2, .ref q2), (1, .ref q1), (0, .ref b)] [.int (xs 1), .ref q2, .int (-2)] [(q2, .inr (10, [.int 0, .ref (mm 1), .ref (mm 2), .ref (mm 3), .ref (mm 4), .ref (mm 5), .int 0, .int 0, .int 0, .int 0, .int 0, .long 0, .int 0, .int 0, .int 0, .int (-1), .ref (mm 6), .ref (mm 7), .ref (mm 8), .ref (mm 9), .ref (mm 10), .ref (mm 11), .ref (mm 12), .ref (mm 13), .int 0, .ref (mm 14), .ref (mm 15), .ref (mm 16), .ref (mm 17), .int 0, .int 0, .int 0, .ref (mm 18), .ref (mm 19), .int 0, .int 0, .ref (mm 20), .ref (mm 21), .ref (mm 22), .int 0, .int 0, .int 0, .int 0, .ref (mm 23), .ref (mm 24), .ref (mm 25), .int 0])), ((mm 7), .inl (E.2.2 0, 25, .inl (fun _ => 0)))] 84 11441
  refine mp_run hF mp_tabL_ok [mp_i (.aload_n 0), mp_i (.iload_n 3), mp_c (.iconst 2) 2, mp_i .iadd] (by decide +kernel) ?_
  intro z10 h11
  obtain rfl : z10 = 2 := h11.trans (by decide)
  show mp_W E X 4 1132 [(3, .int 0), (2, .ref q2), (1, .ref q1), (0, .ref b)] [.int 2, .ref b, .int (xs 1), .ref q2, .int (-2)] [(q2, .inr (10, [.int 0, .ref (mm 1), .ref (mm 2), .ref (mm 3), .ref (mm 4), .ref (mm 5), .int 0, .int 0, .int 0, .int 0, .int 0, .long 0, .int 0, .int 0, .int 0, .int (-1), .ref (mm 6), .ref (mm 7), .ref (mm 8), .ref (mm 9), .ref (mm 10), .ref (mm 11), .ref (mm 12), .ref (mm 13), .int 0, .ref (mm 14), .ref (mm 15), .ref (mm 16), .ref (mm 17), .int 0, .int 0, .int 0, .ref (mm 18), .ref (mm 19), .int 0, .int 0, .ref (mm 20), .ref (mm 21), .ref (mm 22), .int 0, .int 0, .int 0, .int 0, .ref (mm 23), .ref (mm 24), .ref (mm 25), .int 0])), ((mm 7), .inl (E.2.2 0, 25, .inl (fun _ => 0)))] 84 11441
  refine mp_lsld hL 2 (by decide) (by decide) (by decide) (by decide +kernel) ?_
  show mp_W E X 4 1133 [(3, .int 0), (2, .ref q2), (1, .ref q1), (0, .ref b)] [.int (xs 2), .int (xs 1), .ref q2, .int (-2)] [(q2, .inr (10, [.int 0, .ref (mm 1), .ref (mm 2), .ref (mm 3), .ref (mm 4), .ref (mm 5), .int 0, .int 0, .int 0, .int 0, .int 0, .long 0, .int 0, .int 0, .int 0, .int (-1), .ref (mm 6), .ref (mm 7), .ref (mm 8), .ref (mm 9), .ref (mm 10), .ref (mm 11), .ref (mm 12), .ref (mm 13), .int 0, .ref (mm 14), .ref (mm 15), .ref (mm 16), .ref (mm 17), .int 0, .int 0, .int 0, .ref (mm 18), .ref (mm 19), .int 0, .int 0, .ref (mm 20), .ref (mm 21), .ref (mm 22), .int 0, .int 0, .int 0, .int 0, .ref (mm 23), .ref (mm 24), .ref (mm 25), .int 0])), ((mm 7), .inl (E.2.2 0, 25, .inl (fun _ => 0)))] 84 11441
  refine mp_callV hF (As := [.int (xs 1), .int (xs 2)]) (rest := [.int (-2)]) (wr := []) (aX10_lets_106 E q2 (mm 7) (mm 1) (mm 2) (mm 3) (mm 4) (mm 5) (mm 6) (mm 8) (mm 9) (mm 10) (mm 11) (mm 12) (mm 13) (mm 14) (mm 15) (mm 16) (mm 17) (mm 18) (mm 19) (mm 20) (mm 21) (mm 22) (mm 23) (mm 24) (mm 25) (xs 1) (xs 2)) mp_lkL_141 0 rfl [0, 1] [] rfl rfl rfl rfl rfl ⟨(Nat.le_of_ble_eq_true rfl), (Nat.le_of_ble_eq_true rfl), (Nat.le_of_ble_eq_true rfl), (Nat.le_of_ble_eq_true rfl)⟩ (Nat.le_of_ble_eq_true rfl) (by decide +kernel) (fun v12 w13 h14 => ?_)
  obtain ⟨rfl, rfl⟩ := h14
  show mp_W E X 4 1136 [(3, .int 0), (2, .ref q2), (1, .ref q1), (0, .ref b)] [.int (-2), .int (-2)] [] 84 11441
  refine mp_run hF mp_tabL_ok [mp_h (.if_icmp .eq 1083) [2219]] (by decide +kernel) ?_
  refine And.intro (fun _ => ?_) (fun c15 => absurd c15 (by decide))
  show mp_W E X 4 2219 [(3, .int 0), (2, .ref q2), (1, .ref q1), (0, .ref b)] [] [] 84 11441
  exact mp_sub [3, 0] rfl [] rfl rfl (mp_lw_next hL (Nat.le_of_ble_eq_true rfl) (Nat.le_of_ble_eq_true rfl))

set_option maxHeartbeats 4000000 in
set_option maxRecDepth 100000 in
theorem mp_case_31 {E : mp_E} {X : mp_X} {b : Nat} {xs : Nat → Int32} (hL : mp_Lw E X b 6 xs) (q1 q2 : Nat) (bb mm : Nat → Nat) (vs ln wd : Nat → Int32) (hln : ∀ j, j < 4 → ln j = -1) (hwd : ∀ j, j < 4 → wd j = -1) : mp_W E X 4 1141 [(3, .int 0), (2, .ref q2), (1, .ref q1), (0, .ref b)] [] (mp_w0 E q1 q2 bb mm vs ln wd) 84 11441 := by
  have hF : mp_F E X (RL, code, 4, (2048, 600000, 7302250, 84000), ret, false) := hL.1
  show mp_W E X 4 1141 [(3, .int 0), (2, .ref q2), (1, .ref q1), (0, .ref b)] [] (mp_w0 E q1 q2 bb mm vs ln wd) 84 11441
  refine mp_run hF mp_tabL_ok [mp_i (.aload_n 1), mp_i (.aload_n 0), mp_i (.iload_n 3), mp_c (.iconst 1) 1, mp_i .iadd] (by decide +kernel) ?_
  intro z1 h2
  obtain rfl : z1 = 1 := h2.trans (by decide)
  show mp_W E X 4 1146 [(3, .int 0), (2, .ref q2), (1, .ref q1), (0, .ref b)] [.int 1, .ref b, .ref q1] (mp_w0 E q1 q2 bb mm vs ln wd) 84 11441
  refine mp_lsld hL 1 (by decide) (by decide) (by decide) (by decide +kernel) ?_
  show mp_W E X 4 1147 [(3, .int 0), (2, .ref q2), (1, .ref q1), (0, .ref b)] [.int (xs 1), .ref q1] (mp_w0 E q1 q2 bb mm vs ln wd) 84 11441
  refine mp_run hF mp_tabL_ok [mp_i (.aload_n 0), mp_i (.iload_n 3), mp_c (.iconst 2) 2, mp_i .iadd] (by decide +kernel) ?_
  intro z3 h4
  obtain rfl : z3 = 2 := h4.trans (by decide)
  show mp_W E X 4 1151 [(3, .int 0), (2, .ref q2), (1, .ref q1), (0, .ref b)] [.int 2, .ref b, .int (xs 1), .ref q1] (mp_w0 E q1 q2 bb mm vs ln wd) 84 11441
  refine mp_lsld hL 2 (by decide) (by decide) (by decide) (by decide +kernel) ?_
  show mp_W E X 4 1152 [(3, .int 0), (2, .ref q2), (1, .ref q1), (0, .ref b)] [.int (xs 2), .int (xs 1), .ref q1] (mp_w0 E q1 q2 bb mm vs ln wd) 84 11441
  refine mp_callV hF (As := [.int (xs 1), .int (xs 2)]) (rest := []) (wr := [(q2, .inr (10, [.int 0, .ref (mm 1), .ref (mm 2), .ref (mm 3), .ref (mm 4), .ref (mm 5), .int 0, .int 0, .int 0, .int 0, .int 0, .long 0, .int 0, .int 0, .int 0, .int (-1), .ref (mm 6), .ref (mm 7), .ref (mm 8), .ref (mm 9), .ref (mm 10), .ref (mm 11), .ref (mm 12), .ref (mm 13), .int 0, .ref (mm 14), .ref (mm 15), .ref (mm 16), .ref (mm 17), .int 0, .int 0, .int 0, .ref (mm 18), .ref (mm 19), .int 0, .int 0, .ref (mm 20), .ref (mm 21), .ref (mm 22), .int 0, .int 0, .int 0, .int 0, .ref (mm 23), .ref (mm 24), .ref (mm 25), .int 0])), ((mm 7), .inl (E.2.2 0, 25, .inl (fun _ => 0)))]) (aX9_fallen_107 E q1 (bb 16) (bb 17) (bb 1) (bb 36) (bb 37) (bb 40) (bb 46) (bb 49) (bb 52) (bb 54) (bb 30) (bb 31) (bb 32) (bb 33) (bb 34) (bb 35) (bb 18) (bb 19) (bb 20) (bb 21) (bb 22) (bb 23) (bb 24) (bb 25) (bb 26) (bb 27) (bb 28) (bb 29) (xs 1) (xs 2)) mp_lkL_142 0 rfl [0, 16, 17] [58, 65] rfl rfl rfl rfl rfl ⟨(Nat.le_of_ble_eq_true rfl), (Nat.le_of_ble_eq_true rfl), (Nat.le_of_ble_eq_true rfl), (Nat.le_of_ble_eq_true rfl)⟩ (Nat.le_of_ble_eq_true rfl) (by decide +kernel) (fun v5 w6 h7 => ?_)
  obtain ⟨rfl, rfl⟩ := h7
  show mp_W E X 4 1155 [(3, .int 0), (2, .ref q2), (1, .ref q1), (0, .ref b)] [.int (-2)] [(q2, .inr (10, [.int 0, .ref (mm 1), .ref (mm 2), .ref (mm 3), .ref (mm 4), .ref (mm 5), .int 0, .int 0, .int 0, .int 0, .int 0, .long 0, .int 0, .int 0, .int 0, .int (-1), .ref (mm 6), .ref (mm 7), .ref (mm 8), .ref (mm 9), .ref (mm 10), .ref (mm 11), .ref (mm 12), .ref (mm 13), .int 0, .ref (mm 14), .ref (mm 15), .ref (mm 16), .ref (mm 17), .int 0, .int 0, .int 0, .ref (mm 18), .ref (mm 19), .int 0, .int 0, .ref (mm 20), .ref (mm 21), .ref (mm 22), .int 0, .int 0, .int 0, .int 0, .ref (mm 23), .ref (mm 24), .ref (mm 25), .int 0])), ((mm 7), .inl (E.2.2 0, 25, .inl (fun _ => 0)))] 84 11441
  refine mp_run hF mp_tabL_ok [mp_i (.aload_n 2), mp_i (.aload_n 0), mp_i (.iload_n 3), mp_c (.iconst 1) 1, mp_i .iadd] (by decide +kernel) ?_
  intro z8 h9
  obtain rfl : z8 = 1 := h9.trans (by decide)
  show mp_W E X 4 1160 [(3, .int 0), (2, .ref q2), (1, .ref q1), (0, .ref b)] [.int 1, .ref b, .ref q2, .int (-2)] [(q2, .inr (10, [.int 0, .ref (mm 1), .ref (mm 2), .ref (mm 3), .ref (mm 4), .ref (mm 5), .int 0, .int 0, .int 0, .int 0, .int 0, .long 0, .int 0, .int 0, .int 0, .int (-1), .ref (mm 6), .ref (mm 7), .ref (mm 8), .ref (mm 9), .ref (mm 10), .ref (mm 11), .ref (mm 12), .ref (mm 13), .int 0, .ref (mm 14), .ref (mm 15), .ref (mm 16), .ref (mm 17), .int 0, .int 0, .int 0, .ref (mm 18), .ref (mm 19), .int 0, .int 0, .ref (mm 20), .ref (mm 21), .ref (mm 22), .int 0, .int 0, .int 0, .int 0, .ref (mm 23), .ref (mm 24), .ref (mm 25), .int 0])), ((mm 7), .inl (E.2.2 0, 25, .inl (fun _ => 0)))] 84 11441
  refine mp_lsld hL 1 (by decide) (by decide) (by decide) (by decide +kernel) ?_
  show mp_W E X 4 1161 [(3, .int 0), (2, .ref q2), (1, .ref q1), (0, .ref b)] [.int (xs 1), .ref q2, .int (-2)] [(q2, .inr (10, [.int 0, .ref (mm 1), .ref (mm 2), .ref (mm 3), .ref (mm 4), .ref (mm 5), .int 0, .int 0, .int 0, .int 0, .int 0, .long 0, .int 0, .int 0, .int 0, .int (-1), .ref (mm 6), .ref (mm 7), .ref (mm 8), .ref (mm 9), .ref (mm 10), .ref (mm 11), .ref (mm 12), .ref (mm 13), .int 0, .ref (mm 14), .ref (mm 15), .ref (mm 16), .ref (mm 17), .int 0, .int 0, .int 0, .ref (mm 18), .ref (mm 19), .int 0, .int 0, .ref (mm 20), .ref (mm 21), .ref (mm 22), .int 0, .int 0, .int 0, .int 0, .ref (mm 23), .ref (mm 24), .ref (mm 25), .int 0])), ((mm 7), .inl (E.2.2 0, 25, .inl (fun _ => 0)))] 84 11441
  refine mp_run hF mp_tabL_ok [mp_i (.aload_n 0), mp_i (.iload_n 3), mp_c (.iconst 2) 2, mp_i .iadd] (by decide +kernel) ?_
  intro z10 h11
  obtain rfl : z10 = 2 := h11.trans (by decide)
  show mp_W E X 4 1165 [(3, .int 0), (2, .ref q2), (1, .ref q1), (0, .ref b)] [.int 2, .ref b, .int (xs 1), .ref q2, .int (-2)] [(q2, .inr (10, [.int 0, .ref (mm 1), .ref (mm 2), .ref (mm 3), .ref (mm 4), .ref (mm 5), .int 0, .int 0, .int 0, .int 0, .int 0, .long 0, .int 0, .int 0, .int 0, .int (-1), .ref (mm 6), .ref (mm 7), .ref (mm 8), .ref (mm 9), .ref (mm 10), .ref (mm 11), .ref (mm 12), .ref (mm 13), .int 0, .ref (mm 14), .ref (mm 15), .ref (mm 16), .ref (mm 17), .int 0, .int 0, .int 0, .ref (mm 18), .ref (mm 19), .int 0, .int 0, .ref (mm 20), .ref (mm 21), .ref (mm 22), .int 0, .int 0, .int 0, .int 0, .ref (mm 23), .ref (mm 24), .ref (mm 25), .int 0])), ((mm 7), .inl (E.2.2 0, 25, .inl (fun _ => 0)))] 84 11441
  refine mp_lsld hL 2 (by decide) (by decide) (by decide) (by decide +kernel) ?_
  show mp_W E X 4 1166 [(3, .int 0), (2, .ref q2), (1, .ref q1), (0, .ref b)] [.int (xs 2), .int (xs 1), .ref q2, .int (-2)] [(q2, .inr (10, [.int 0, .ref (mm 1), .ref (mm 2), .ref (mm 3), .ref (mm 4), .ref (mm 5), .int 0, .int 0, .int 0, .int 0, .int 0, .long 0, .int 0, .int 0, .int 0, .int (-1), .ref (mm 6), .ref (mm 7), .ref (mm 8), .ref (mm 9), .ref (mm 10), .ref (mm 11), .ref (mm 12), .ref (mm 13), .int 0, .ref (mm 14), .ref (mm 15), .ref (mm 16), .ref (mm 17), .int 0, .int 0, .int 0, .ref (mm 18), .ref (mm 19), .int 0, .int 0, .ref (mm 20), .ref (mm 21), .ref (mm 22), .int 0, .int 0, .int 0, .int 0, .ref (mm 23), .ref (mm 24), .ref (mm 25), .int 0])), ((mm 7), .inl (E.2.2 0, 25, .inl (fun _ => 0)))] 84 11441
  refine mp_callV hF (As := [.int (xs 1), .int (xs 2)]) (rest := [.int (-2)]) (wr := []) (aX10_fallen_108 E q2 (mm 7) (mm 1) (mm 2) (mm 3) (mm 4) (mm 5) (mm 6) (mm 8) (mm 9) (mm 10) (mm 11) (mm 12) (mm 13) (mm 14) (mm 15) (mm 16) (mm 17) (mm 18) (mm 19) (mm 20) (mm 21) (mm 22) (mm 23) (mm 24) (mm 25) (xs 1) (xs 2)) mp_lkL_145 0 rfl [0, 1] [] rfl rfl rfl rfl rfl ⟨(Nat.le_of_ble_eq_true rfl), (Nat.le_of_ble_eq_true rfl), (Nat.le_of_ble_eq_true rfl), (Nat.le_of_ble_eq_true rfl)⟩ (Nat.le_of_ble_eq_true rfl) (by decide +kernel) (fun v12 w13 h14 => ?_)
  obtain ⟨rfl, rfl⟩ := h14
  show mp_W E X 4 1169 [(3, .int 0), (2, .ref q2), (1, .ref q1), (0, .ref b)] [.int (-2), .int (-2)] [] 84 11441
  refine mp_run hF mp_tabL_ok [mp_h (.if_icmp .eq 1050) [2219]] (by decide +kernel) ?_
  refine And.intro (fun _ => ?_) (fun c15 => absurd c15 (by decide))
  show mp_W E X 4 2219 [(3, .int 0), (2, .ref q2), (1, .ref q1), (0, .ref b)] [] [] 84 11441
  exact mp_sub [3, 0] rfl [] rfl rfl (mp_lw_next hL (Nat.le_of_ble_eq_true rfl) (Nat.le_of_ble_eq_true rfl))

set_option maxHeartbeats 4000000 in
set_option maxRecDepth 100000 in
theorem mp_case_32 {E : mp_E} {X : mp_X} {b : Nat} {xs : Nat → Int32} (hL : mp_Lw E X b 6 xs) (q1 q2 : Nat) (bb mm : Nat → Nat) (vs ln wd : Nat → Int32) (hln : ∀ j, j < 4 → ln j = -1) (hwd : ∀ j, j < 4 → wd j = -1) : mp_W E X 4 1174 [(3, .int 0), (2, .ref q2), (1, .ref q1), (0, .ref b)] [] (mp_w0 E q1 q2 bb mm vs ln wd) 84 11441 := by
  have hF : mp_F E X (RL, code, 4, (2048, 600000, 7302250, 84000), ret, false) := hL.1
  show mp_W E X 4 1174 [(3, .int 0), (2, .ref q2), (1, .ref q1), (0, .ref b)] [] (mp_w0 E q1 q2 bb mm vs ln wd) 84 11441
  refine mp_run hF mp_tabL_ok [mp_i (.aload_n 1), mp_i (.aload_n 0), mp_i (.iload_n 3), mp_c (.iconst 1) 1, mp_i .iadd] (by decide +kernel) ?_
  intro z1 h2
  obtain rfl : z1 = 1 := h2.trans (by decide)
  show mp_W E X 4 1179 [(3, .int 0), (2, .ref q2), (1, .ref q1), (0, .ref b)] [.int 1, .ref b, .ref q1] (mp_w0 E q1 q2 bb mm vs ln wd) 84 11441
  refine mp_lsld hL 1 (by decide) (by decide) (by decide) (by decide +kernel) ?_
  show mp_W E X 4 1180 [(3, .int 0), (2, .ref q2), (1, .ref q1), (0, .ref b)] [.int (xs 1), .ref q1] (mp_w0 E q1 q2 bb mm vs ln wd) 84 11441
  refine mp_run hF mp_tabL_ok [mp_i (.aload_n 0), mp_i (.iload_n 3), mp_c (.iconst 2) 2, mp_i .iadd] (by decide +kernel) ?_
  intro z3 h4
  obtain rfl : z3 = 2 := h4.trans (by decide)
  show mp_W E X 4 1184 [(3, .int 0), (2, .ref q2), (1, .ref q1), (0, .ref b)] [.int 2, .ref b, .int (xs 1), .ref q1] (mp_w0 E q1 q2 bb mm vs ln wd) 84 11441
  refine mp_lsld hL 2 (by decide) (by decide) (by decide) (by decide +kernel) ?_
  show mp_W E X 4 1185 [(3, .int 0), (2, .ref q2), (1, .ref q1), (0, .ref b)] [.int (xs 2), .int (xs 1), .ref q1] (mp_w0 E q1 q2 bb mm vs ln wd) 84 11441
  refine mp_callV hF (As := [.int (xs 1), .int (xs 2)]) (rest := []) (wr := [(q2, .inr (10, [.int 0, .ref (mm 1), .ref (mm 2), .ref (mm 3), .ref (mm 4), .ref (mm 5), .int 0, .int 0, .int 0, .int 0, .int 0, .long 0, .int 0, .int 0, .int 0, .int (-1), .ref (mm 6), .ref (mm 7), .ref (mm 8), .ref (mm 9), .ref (mm 10), .ref (mm 11), .ref (mm 12), .ref (mm 13), .int 0, .ref (mm 14), .ref (mm 15), .ref (mm 16), .ref (mm 17), .int 0, .int 0, .int 0, .ref (mm 18), .ref (mm 19), .int 0, .int 0, .ref (mm 20), .ref (mm 21), .ref (mm 22), .int 0, .int 0, .int 0, .int 0, .ref (mm 23), .ref (mm 24), .ref (mm 25), .int 0])), ((mm 7), .inl (E.2.2 0, 25, .inl (fun _ => 0)))]) (aX9_plans_109 E q1 (bb 16) (bb 17) (bb 1) (bb 36) (bb 37) (bb 40) (bb 46) (bb 49) (bb 52) (bb 54) (bb 30) (bb 31) (bb 32) (bb 33) (bb 34) (bb 35) (bb 18) (bb 19) (bb 20) (bb 21) (bb 22) (bb 23) (bb 24) (bb 25) (bb 26) (bb 27) (bb 28) (bb 29) (xs 1) (xs 2)) mp_lkL_146 0 rfl [0, 16, 17] [58, 65] rfl rfl rfl rfl rfl ⟨(Nat.le_of_ble_eq_true rfl), (Nat.le_of_ble_eq_true rfl), (Nat.le_of_ble_eq_true rfl), (Nat.le_of_ble_eq_true rfl)⟩ (Nat.le_of_ble_eq_true rfl) (by decide +kernel) (fun v5 w6 h7 => ?_)
  obtain ⟨rfl, rfl⟩ := h7
  show mp_W E X 4 1188 [(3, .int 0), (2, .ref q2), (1, .ref q1), (0, .ref b)] [.long (-2)] [(q2, .inr (10, [.int 0, .ref (mm 1), .ref (mm 2), .ref (mm 3), .ref (mm 4), .ref (mm 5), .int 0, .int 0, .int 0, .int 0, .int 0, .long 0, .int 0, .int 0, .int 0, .int (-1), .ref (mm 6), .ref (mm 7), .ref (mm 8), .ref (mm 9), .ref (mm 10), .ref (mm 11), .ref (mm 12), .ref (mm 13), .int 0, .ref (mm 14), .ref (mm 15), .ref (mm 16), .ref (mm 17), .int 0, .int 0, .int 0, .ref (mm 18), .ref (mm 19), .int 0, .int 0, .ref (mm 20), .ref (mm 21), .ref (mm 22), .int 0, .int 0, .int 0, .int 0, .ref (mm 23), .ref (mm 24), .ref (mm 25), .int 0])), ((mm 7), .inl (E.2.2 0, 25, .inl (fun _ => 0)))] 84 11441
  refine mp_run hF mp_tabL_ok [mp_i (.aload_n 2), mp_i (.aload_n 0), mp_i (.iload_n 3), mp_c (.iconst 1) 1, mp_i .iadd] (by decide +kernel) ?_
  intro z8 h9
  obtain rfl : z8 = 1 := h9.trans (by decide)
  show mp_W E X 4 1193 [(3, .int 0), (2, .ref q2), (1, .ref q1), (0, .ref b)] [.int 1, .ref b, .ref q2, .long (-2)] [(q2, .inr (10, [.int 0, .ref (mm 1), .ref (mm 2), .ref (mm 3), .ref (mm 4), .ref (mm 5), .int 0, .int 0, .int 0, .int 0, .int 0, .long 0, .int 0, .int 0, .int 0, .int (-1), .ref (mm 6), .ref (mm 7), .ref (mm 8), .ref (mm 9), .ref (mm 10), .ref (mm 11), .ref (mm 12), .ref (mm 13), .int 0, .ref (mm 14), .ref (mm 15), .ref (mm 16), .ref (mm 17), .int 0, .int 0, .int 0, .ref (mm 18), .ref (mm 19), .int 0, .int 0, .ref (mm 20), .ref (mm 21), .ref (mm 22), .int 0, .int 0, .int 0, .int 0, .ref (mm 23), .ref (mm 24), .ref (mm 25), .int 0])), ((mm 7), .inl (E.2.2 0, 25, .inl (fun _ => 0)))] 84 11441
  refine mp_lsld hL 1 (by decide) (by decide) (by decide) (by decide +kernel) ?_
  show mp_W E X 4 1194 [(3, .int 0), (2, .ref q2), (1, .ref q1), (0, .ref b)] [.int (xs 1), .ref q2, .long (-2)] [(q2, .inr (10, [.int 0, .ref (mm 1), .ref (mm 2), .ref (mm 3), .ref (mm 4), .ref (mm 5), .int 0, .int 0, .int 0, .int 0, .int 0, .long 0, .int 0, .int 0, .int 0, .int (-1), .ref (mm 6), .ref (mm 7), .ref (mm 8), .ref (mm 9), .ref (mm 10), .ref (mm 11), .ref (mm 12), .ref (mm 13), .int 0, .ref (mm 14), .ref (mm 15), .ref (mm 16), .ref (mm 17), .int 0, .int 0, .int 0, .ref (mm 18), .ref (mm 19), .int 0, .int 0, .ref (mm 20), .ref (mm 21), .ref (mm 22), .int 0, .int 0, .int 0, .int 0, .ref (mm 23), .ref (mm 24), .ref (mm 25), .int 0])), ((mm 7), .inl (E.2.2 0, 25, .inl (fun _ => 0)))] 84 11441
  refine mp_run hF mp_tabL_ok [mp_i (.aload_n 0), mp_i (.iload_n 3), mp_c (.iconst 2) 2, mp_i .iadd] (by decide +kernel) ?_
  intro z10 h11
  obtain rfl : z10 = 2 := h11.trans (by decide)
  show mp_W E X 4 1198 [(3, .int 0), (2, .ref q2), (1, .ref q1), (0, .ref b)] [.int 2, .ref b, .int (xs 1), .ref q2, .long (-2)] [(q2, .inr (10, [.int 0, .ref (mm 1), .ref (mm 2), .ref (mm 3), .ref (mm 4), .ref (mm 5), .int 0, .int 0, .int 0, .int 0, .int 0, .long 0, .int 0, .int 0, .int 0, .int (-1), .ref (mm 6), .ref (mm 7), .ref (mm 8), .ref (mm 9), .ref (mm 10), .ref (mm 11), .ref (mm 12), .ref (mm 13), .int 0, .ref (mm 14), .ref (mm 15), .ref (mm 16), .ref (mm 17), .int 0, .int 0, .int 0, .ref (mm 18), .ref (mm 19), .int 0, .int 0, .ref (mm 20), .ref (mm 21), .ref (mm 22), .int 0, .int 0, .int 0, .int 0, .ref (mm 23), .ref (mm 24), .ref (mm 25), .int 0])), ((mm 7), .inl (E.2.2 0, 25, .inl (fun _ => 0)))] 84 11441
  refine mp_lsld hL 2 (by decide) (by decide) (by decide) (by decide +kernel) ?_
  show mp_W E X 4 1199 [(3, .int 0), (2, .ref q2), (1, .ref q1), (0, .ref b)] [.int (xs 2), .int (xs 1), .ref q2, .long (-2)] [(q2, .inr (10, [.int 0, .ref (mm 1), .ref (mm 2), .ref (mm 3), .ref (mm 4), .ref (mm 5), .int 0, .int 0, .int 0, .int 0, .int 0, .long 0, .int 0, .int 0, .int 0, .int (-1), .ref (mm 6), .ref (mm 7), .ref (mm 8), .ref (mm 9), .ref (mm 10), .ref (mm 11), .ref (mm 12), .ref (mm 13), .int 0, .ref (mm 14), .ref (mm 15), .ref (mm 16), .ref (mm 17), .int 0, .int 0, .int 0, .ref (mm 18), .ref (mm 19), .int 0, .int 0, .ref (mm 20), .ref (mm 21), .ref (mm 22), .int 0, .int 0, .int 0, .int 0, .ref (mm 23), .ref (mm 24), .ref (mm 25), .int 0])), ((mm 7), .inl (E.2.2 0, 25, .inl (fun _ => 0)))] 84 11441
  refine mp_callV hF (As := [.int (xs 1), .int (xs 2)]) (rest := [.long (-2)]) (wr := []) (aX10_plans_110 E q2 (mm 7) (mm 1) (mm 2) (mm 3) (mm 4) (mm 5) (mm 6) (mm 8) (mm 9) (mm 10) (mm 11) (mm 12) (mm 13) (mm 14) (mm 15) (mm 16) (mm 17) (mm 18) (mm 19) (mm 20) (mm 21) (mm 22) (mm 23) (mm 24) (mm 25) (xs 1) (xs 2)) mp_lkL_150 0 rfl [0, 1] [] rfl rfl rfl rfl rfl ⟨(Nat.le_of_ble_eq_true rfl), (Nat.le_of_ble_eq_true rfl), (Nat.le_of_ble_eq_true rfl), (Nat.le_of_ble_eq_true rfl)⟩ (Nat.le_of_ble_eq_true rfl) (by decide +kernel) (fun v12 w13 h14 => ?_)
  obtain ⟨rfl, rfl⟩ := h14
  show mp_W E X 4 1202 [(3, .int 0), (2, .ref q2), (1, .ref q1), (0, .ref b)] [.long (-2), .long (-2)] [] 84 11441
  refine mp_run hF mp_tabL_ok [mp_i .lcmp, mp_h (.ifCond .eq 1016) [2219]] (by decide +kernel) ?_
  intro z15 h16
  obtain rfl : z15 = 0 := h16.trans (by decide)
  refine And.intro (fun _ => ?_) (fun c17 => absurd c17 (by decide))
  show mp_W E X 4 2219 [(3, .int 0), (2, .ref q2), (1, .ref q1), (0, .ref b)] [] [] 84 11441
  exact mp_sub [3, 0] rfl [] rfl rfl (mp_lw_next hL (Nat.le_of_ble_eq_true rfl) (Nat.le_of_ble_eq_true rfl))

set_option maxHeartbeats 4000000 in
set_option maxRecDepth 100000 in
theorem mp_case_33 {E : mp_E} {X : mp_X} {b : Nat} {xs : Nat → Int32} (hL : mp_Lw E X b 6 xs) (q1 q2 : Nat) (bb mm : Nat → Nat) (vs ln wd : Nat → Int32) (hln : ∀ j, j < 4 → ln j = -1) (hwd : ∀ j, j < 4 → wd j = -1) : mp_W E X 4 1208 [(3, .int 0), (2, .ref q2), (1, .ref q1), (0, .ref b)] [] (mp_w0 E q1 q2 bb mm vs ln wd) 84 11441 := by
  have hF : mp_F E X (RL, code, 4, (2048, 600000, 7302250, 84000), ret, false) := hL.1
  show mp_W E X 4 1208 [(3, .int 0), (2, .ref q2), (1, .ref q1), (0, .ref b)] [] (mp_w0 E q1 q2 bb mm vs ln wd) 84 11441
  refine mp_run hF mp_tabL_ok [mp_i (.aload_n 1), mp_i (.aload_n 0), mp_i (.iload_n 3), mp_c (.iconst 1) 1, mp_i .iadd] (by decide +kernel) ?_
  intro z1 h2
  obtain rfl : z1 = 1 := h2.trans (by decide)
  show mp_W E X 4 1213 [(3, .int 0), (2, .ref q2), (1, .ref q1), (0, .ref b)] [.int 1, .ref b, .ref q1] (mp_w0 E q1 q2 bb mm vs ln wd) 84 11441
  refine mp_lsld hL 1 (by decide) (by decide) (by decide) (by decide +kernel) ?_
  show mp_W E X 4 1214 [(3, .int 0), (2, .ref q2), (1, .ref q1), (0, .ref b)] [.int (xs 1), .ref q1] (mp_w0 E q1 q2 bb mm vs ln wd) 84 11441
  refine mp_run hF mp_tabL_ok [mp_i (.aload_n 0), mp_i (.iload_n 3), mp_c (.iconst 2) 2, mp_i .iadd] (by decide +kernel) ?_
  intro z3 h4
  obtain rfl : z3 = 2 := h4.trans (by decide)
  show mp_W E X 4 1218 [(3, .int 0), (2, .ref q2), (1, .ref q1), (0, .ref b)] [.int 2, .ref b, .int (xs 1), .ref q1] (mp_w0 E q1 q2 bb mm vs ln wd) 84 11441
  refine mp_lsld hL 2 (by decide) (by decide) (by decide) (by decide +kernel) ?_
  show mp_W E X 4 1219 [(3, .int 0), (2, .ref q2), (1, .ref q1), (0, .ref b)] [.int (xs 2), .int (xs 1), .ref q1] (mp_w0 E q1 q2 bb mm vs ln wd) 84 11441
  refine mp_run hF mp_tabL_ok [mp_i (.aload_n 0), mp_i (.iload_n 3), mp_c (.iconst 3) 3, mp_i .iadd] (by decide +kernel) ?_
  intro z5 h6
  obtain rfl : z5 = 3 := h6.trans (by decide)
  show mp_W E X 4 1223 [(3, .int 0), (2, .ref q2), (1, .ref q1), (0, .ref b)] [.int 3, .ref b, .int (xs 2), .int (xs 1), .ref q1] (mp_w0 E q1 q2 bb mm vs ln wd) 84 11441
  refine mp_lsld hL 3 (by decide) (by decide) (by decide) (by decide +kernel) ?_
  show mp_W E X 4 1224 [(3, .int 0), (2, .ref q2), (1, .ref q1), (0, .ref b)] [.int (xs 3), .int (xs 2), .int (xs 1), .ref q1] (mp_w0 E q1 q2 bb mm vs ln wd) 84 11441
  refine mp_callV hF (As := [.int (xs 1), .int (xs 2), .int (xs 3)]) (rest := []) (wr := [(q2, .inr (10, [.int 0, .ref (mm 1), .ref (mm 2), .ref (mm 3), .ref (mm 4), .ref (mm 5), .int 0, .int 0, .int 0, .int 0, .int 0, .long 0, .int 0, .int 0, .int 0, .int (-1), .ref (mm 6), .ref (mm 7), .ref (mm 8), .ref (mm 9), .ref (mm 10), .ref (mm 11), .ref (mm 12), .ref (mm 13), .int 0, .ref (mm 14), .ref (mm 15), .ref (mm 16), .ref (mm 17), .int 0, .int 0, .int 0, .ref (mm 18), .ref (mm 19), .int 0, .int 0, .ref (mm 20), .ref (mm 21), .ref (mm 22), .int 0, .int 0, .int 0, .int 0, .ref (mm 23), .ref (mm 24), .ref (mm 25), .int 0])), ((mm 7), .inl (E.2.2 0, 25, .inl (fun _ => 0)))]) (aX9_love_112 E q1 (bb 16) (bb 17) (bb 1) (bb 36) (bb 37) (bb 40) (bb 46) (bb 49) (bb 52) (bb 54) (bb 30) (bb 31) (bb 32) (bb 33) (bb 34) (bb 35) (bb 18) (bb 19) (bb 20) (bb 21) (bb 22) (bb 23) (bb 24) (bb 25) (bb 26) (bb 27) (bb 28) (bb 29) (xs 1) (xs 2) (xs 3)) mp_lkL_151 0 rfl [0, 16, 17] [58, 65] rfl rfl rfl rfl rfl ⟨(Nat.le_of_ble_eq_true rfl), (Nat.le_of_ble_eq_true rfl), (Nat.le_of_ble_eq_true rfl), (Nat.le_of_ble_eq_true rfl)⟩ (Nat.le_of_ble_eq_true rfl) (by decide +kernel) (fun v7 w8 h9 => ?_)
  obtain ⟨rfl, rfl⟩ := h9
  show mp_W E X 4 1227 [(3, .int 0), (2, .ref q2), (1, .ref q1), (0, .ref b)] [.int (-2)] [(q2, .inr (10, [.int 0, .ref (mm 1), .ref (mm 2), .ref (mm 3), .ref (mm 4), .ref (mm 5), .int 0, .int 0, .int 0, .int 0, .int 0, .long 0, .int 0, .int 0, .int 0, .int (-1), .ref (mm 6), .ref (mm 7), .ref (mm 8), .ref (mm 9), .ref (mm 10), .ref (mm 11), .ref (mm 12), .ref (mm 13), .int 0, .ref (mm 14), .ref (mm 15), .ref (mm 16), .ref (mm 17), .int 0, .int 0, .int 0, .ref (mm 18), .ref (mm 19), .int 0, .int 0, .ref (mm 20), .ref (mm 21), .ref (mm 22), .int 0, .int 0, .int 0, .int 0, .ref (mm 23), .ref (mm 24), .ref (mm 25), .int 0])), ((mm 7), .inl (E.2.2 0, 25, .inl (fun _ => 0)))] 84 11441
  refine mp_run hF mp_tabL_ok [mp_i (.aload_n 2), mp_i (.aload_n 0), mp_i (.iload_n 3), mp_c (.iconst 1) 1, mp_i .iadd] (by decide +kernel) ?_
  intro z10 h11
  obtain rfl : z10 = 1 := h11.trans (by decide)
  show mp_W E X 4 1232 [(3, .int 0), (2, .ref q2), (1, .ref q1), (0, .ref b)] [.int 1, .ref b, .ref q2, .int (-2)] [(q2, .inr (10, [.int 0, .ref (mm 1), .ref (mm 2), .ref (mm 3), .ref (mm 4), .ref (mm 5), .int 0, .int 0, .int 0, .int 0, .int 0, .long 0, .int 0, .int 0, .int 0, .int (-1), .ref (mm 6), .ref (mm 7), .ref (mm 8), .ref (mm 9), .ref (mm 10), .ref (mm 11), .ref (mm 12), .ref (mm 13), .int 0, .ref (mm 14), .ref (mm 15), .ref (mm 16), .ref (mm 17), .int 0, .int 0, .int 0, .ref (mm 18), .ref (mm 19), .int 0, .int 0, .ref (mm 20), .ref (mm 21), .ref (mm 22), .int 0, .int 0, .int 0, .int 0, .ref (mm 23), .ref (mm 24), .ref (mm 25), .int 0])), ((mm 7), .inl (E.2.2 0, 25, .inl (fun _ => 0)))] 84 11441
  refine mp_lsld hL 1 (by decide) (by decide) (by decide) (by decide +kernel) ?_
  show mp_W E X 4 1233 [(3, .int 0), (2, .ref q2), (1, .ref q1), (0, .ref b)] [.int (xs 1), .ref q2, .int (-2)] [(q2, .inr (10, [.int 0, .ref (mm 1), .ref (mm 2), .ref (mm 3), .ref (mm 4), .ref (mm 5), .int 0, .int 0, .int 0, .int 0, .int 0, .long 0, .int 0, .int 0, .int 0, .int (-1), .ref (mm 6), .ref (mm 7), .ref (mm 8), .ref (mm 9), .ref (mm 10), .ref (mm 11), .ref (mm 12), .ref (mm 13), .int 0, .ref (mm 14), .ref (mm 15), .ref (mm 16), .ref (mm 17), .int 0, .int 0, .int 0, .ref (mm 18), .ref (mm 19), .int 0, .int 0, .ref (mm 20), .ref (mm 21), .ref (mm 22), .int 0, .int 0, .int 0, .int 0, .ref (mm 23), .ref (mm 24), .ref (mm 25), .int 0])), ((mm 7), .inl (E.2.2 0, 25, .inl (fun _ => 0)))] 84 11441
  refine mp_run hF mp_tabL_ok [mp_i (.aload_n 0), mp_i (.iload_n 3), mp_c (.iconst 2) 2, mp_i .iadd] (by decide +kernel) ?_
  intro z12 h13
  obtain rfl : z12 = 2 := h13.trans (by decide)
  show mp_W E X 4 1237 [(3, .int 0), (2, .ref q2), (1, .ref q1), (0, .ref b)] [.int 2, .ref b, .int (xs 1), .ref q2, .int (-2)] [(q2, .inr (10, [.int 0, .ref (mm 1), .ref (mm 2), .ref (mm 3), .ref (mm 4), .ref (mm 5), .int 0, .int 0, .int 0, .int 0, .int 0, .long 0, .int 0, .int 0, .int 0, .int (-1), .ref (mm 6), .ref (mm 7), .ref (mm 8), .ref (mm 9), .ref (mm 10), .ref (mm 11), .ref (mm 12), .ref (mm 13), .int 0, .ref (mm 14), .ref (mm 15), .ref (mm 16), .ref (mm 17), .int 0, .int 0, .int 0, .ref (mm 18), .ref (mm 19), .int 0, .int 0, .ref (mm 20), .ref (mm 21), .ref (mm 22), .int 0, .int 0, .int 0, .int 0, .ref (mm 23), .ref (mm 24), .ref (mm 25), .int 0])), ((mm 7), .inl (E.2.2 0, 25, .inl (fun _ => 0)))] 84 11441
  refine mp_lsld hL 2 (by decide) (by decide) (by decide) (by decide +kernel) ?_
  show mp_W E X 4 1238 [(3, .int 0), (2, .ref q2), (1, .ref q1), (0, .ref b)] [.int (xs 2), .int (xs 1), .ref q2, .int (-2)] [(q2, .inr (10, [.int 0, .ref (mm 1), .ref (mm 2), .ref (mm 3), .ref (mm 4), .ref (mm 5), .int 0, .int 0, .int 0, .int 0, .int 0, .long 0, .int 0, .int 0, .int 0, .int (-1), .ref (mm 6), .ref (mm 7), .ref (mm 8), .ref (mm 9), .ref (mm 10), .ref (mm 11), .ref (mm 12), .ref (mm 13), .int 0, .ref (mm 14), .ref (mm 15), .ref (mm 16), .ref (mm 17), .int 0, .int 0, .int 0, .ref (mm 18), .ref (mm 19), .int 0, .int 0, .ref (mm 20), .ref (mm 21), .ref (mm 22), .int 0, .int 0, .int 0, .int 0, .ref (mm 23), .ref (mm 24), .ref (mm 25), .int 0])), ((mm 7), .inl (E.2.2 0, 25, .inl (fun _ => 0)))] 84 11441
  refine mp_run hF mp_tabL_ok [mp_i (.aload_n 0), mp_i (.iload_n 3), mp_c (.iconst 3) 3, mp_i .iadd] (by decide +kernel) ?_
  intro z14 h15
  obtain rfl : z14 = 3 := h15.trans (by decide)
  show mp_W E X 4 1242 [(3, .int 0), (2, .ref q2), (1, .ref q1), (0, .ref b)] [.int 3, .ref b, .int (xs 2), .int (xs 1), .ref q2, .int (-2)] [(q2, .inr (10, [.int 0, .ref (mm 1), .ref (mm 2), .ref (mm 3), .ref (mm 4), .ref (mm 5), .int 0, .int 0, .int 0, .int 0, .int 0, .long 0, .int 0, .int 0, .int 0, .int (-1), .ref (mm 6), .ref (mm 7), .ref (mm 8), .ref (mm 9), .ref (mm 10), .ref (mm 11), .ref (mm 12), .ref (mm 13), .int 0, .ref (mm 14), .ref (mm 15), .ref (mm 16), .ref (mm 17), .int 0, .int 0, .int 0, .ref (mm 18), .ref (mm 19), .int 0, .int 0, .ref (mm 20), .ref (mm 21), .ref (mm 22), .int 0, .int 0, .int 0, .int 0, .ref (mm 23), .ref (mm 24), .ref (mm 25), .int 0])), ((mm 7), .inl (E.2.2 0, 25, .inl (fun _ => 0)))] 84 11441
  refine mp_lsld hL 3 (by decide) (by decide) (by decide) (by decide +kernel) ?_
  show mp_W E X 4 1243 [(3, .int 0), (2, .ref q2), (1, .ref q1), (0, .ref b)] [.int (xs 3), .int (xs 2), .int (xs 1), .ref q2, .int (-2)] [(q2, .inr (10, [.int 0, .ref (mm 1), .ref (mm 2), .ref (mm 3), .ref (mm 4), .ref (mm 5), .int 0, .int 0, .int 0, .int 0, .int 0, .long 0, .int 0, .int 0, .int 0, .int (-1), .ref (mm 6), .ref (mm 7), .ref (mm 8), .ref (mm 9), .ref (mm 10), .ref (mm 11), .ref (mm 12), .ref (mm 13), .int 0, .ref (mm 14), .ref (mm 15), .ref (mm 16), .ref (mm 17), .int 0, .int 0, .int 0, .ref (mm 18), .ref (mm 19), .int 0, .int 0, .ref (mm 20), .ref (mm 21), .ref (mm 22), .int 0, .int 0, .int 0, .int 0, .ref (mm 23), .ref (mm 24), .ref (mm 25), .int 0])), ((mm 7), .inl (E.2.2 0, 25, .inl (fun _ => 0)))] 84 11441
  refine mp_callV hF (As := [.int (xs 1), .int (xs 2), .int (xs 3)]) (rest := [.int (-2)]) (wr := []) (aX10_love_114 E q2 (mm 7) (mm 1) (mm 2) (mm 3) (mm 4) (mm 5) (mm 6) (mm 8) (mm 9) (mm 10) (mm 11) (mm 12) (mm 13) (mm 14) (mm 15) (mm 16) (mm 17) (mm 18) (mm 19) (mm 20) (mm 21) (mm 22) (mm 23) (mm 24) (mm 25) (xs 1) (xs 2) (xs 3)) mp_lkL_154 0 rfl [0, 1] [] rfl rfl rfl rfl rfl ⟨(Nat.le_of_ble_eq_true rfl), (Nat.le_of_ble_eq_true rfl), (Nat.le_of_ble_eq_true rfl), (Nat.le_of_ble_eq_true rfl)⟩ (Nat.le_of_ble_eq_true rfl) (by decide +kernel) (fun v16 w17 h18 => ?_)
  obtain ⟨rfl, rfl⟩ := h18
  show mp_W E X 4 1246 [(3, .int 0), (2, .ref q2), (1, .ref q1), (0, .ref b)] [.int (-2), .int (-2)] [] 84 11441
  refine mp_run hF mp_tabL_ok [mp_h (.if_icmp .eq 973) [2219]] (by decide +kernel) ?_
  refine And.intro (fun _ => ?_) (fun c19 => absurd c19 (by decide))
  show mp_W E X 4 2219 [(3, .int 0), (2, .ref q2), (1, .ref q1), (0, .ref b)] [] [] 84 11441
  exact mp_sub [3, 0] rfl [] rfl rfl (mp_lw_next hL (Nat.le_of_ble_eq_true rfl) (Nat.le_of_ble_eq_true rfl))

set_option maxHeartbeats 4000000 in
set_option maxRecDepth 100000 in
theorem mp_case_34 {E : mp_E} {X : mp_X} {b : Nat} {xs : Nat → Int32} (hL : mp_Lw E X b 6 xs) (q1 q2 : Nat) (bb mm : Nat → Nat) (vs ln wd : Nat → Int32) (hln : ∀ j, j < 4 → ln j = -1) (hwd : ∀ j, j < 4 → wd j = -1) : mp_W E X 4 1251 [(3, .int 0), (2, .ref q2), (1, .ref q1), (0, .ref b)] [] (mp_w0 E q1 q2 bb mm vs ln wd) 84 11441 := by
  have hF : mp_F E X (RL, code, 4, (2048, 600000, 7302250, 84000), ret, false) := hL.1
  show mp_W E X 4 1251 [(3, .int 0), (2, .ref q2), (1, .ref q1), (0, .ref b)] [] (mp_w0 E q1 q2 bb mm vs ln wd) 84 11441
  refine mp_run hF mp_tabL_ok [mp_i (.aload_n 1), mp_i (.aload_n 0), mp_i (.iload_n 3), mp_c (.iconst 1) 1, mp_i .iadd] (by decide +kernel) ?_
  intro z1 h2
  obtain rfl : z1 = 1 := h2.trans (by decide)
  show mp_W E X 4 1256 [(3, .int 0), (2, .ref q2), (1, .ref q1), (0, .ref b)] [.int 1, .ref b, .ref q1] (mp_w0 E q1 q2 bb mm vs ln wd) 84 11441
  refine mp_lsld hL 1 (by decide) (by decide) (by decide) (by decide +kernel) ?_
  show mp_W E X 4 1257 [(3, .int 0), (2, .ref q2), (1, .ref q1), (0, .ref b)] [.int (xs 1), .ref q1] (mp_w0 E q1 q2 bb mm vs ln wd) 84 11441
  refine mp_run hF mp_tabL_ok [mp_i (.aload_n 0), mp_i (.iload_n 3), mp_c (.iconst 2) 2, mp_i .iadd] (by decide +kernel) ?_
  intro z3 h4
  obtain rfl : z3 = 2 := h4.trans (by decide)
  show mp_W E X 4 1261 [(3, .int 0), (2, .ref q2), (1, .ref q1), (0, .ref b)] [.int 2, .ref b, .int (xs 1), .ref q1] (mp_w0 E q1 q2 bb mm vs ln wd) 84 11441
  refine mp_lsld hL 2 (by decide) (by decide) (by decide) (by decide +kernel) ?_
  show mp_W E X 4 1262 [(3, .int 0), (2, .ref q2), (1, .ref q1), (0, .ref b)] [.int (xs 2), .int (xs 1), .ref q1] (mp_w0 E q1 q2 bb mm vs ln wd) 84 11441
  refine mp_run hF mp_tabL_ok [mp_i (.aload_n 0), mp_i (.iload_n 3), mp_c (.iconst 3) 3, mp_i .iadd] (by decide +kernel) ?_
  intro z5 h6
  obtain rfl : z5 = 3 := h6.trans (by decide)
  show mp_W E X 4 1266 [(3, .int 0), (2, .ref q2), (1, .ref q1), (0, .ref b)] [.int 3, .ref b, .int (xs 2), .int (xs 1), .ref q1] (mp_w0 E q1 q2 bb mm vs ln wd) 84 11441
  refine mp_lsld hL 3 (by decide) (by decide) (by decide) (by decide +kernel) ?_
  show mp_W E X 4 1267 [(3, .int 0), (2, .ref q2), (1, .ref q1), (0, .ref b)] [.int (xs 3), .int (xs 2), .int (xs 1), .ref q1] (mp_w0 E q1 q2 bb mm vs ln wd) 84 11441
  refine mp_callV hF (As := [.int (xs 1), .int (xs 2), .int (xs 3)]) (rest := []) (wr := [(q2, .inr (10, [.int 0, .ref (mm 1), .ref (mm 2), .ref (mm 3), .ref (mm 4), .ref (mm 5), .int 0, .int 0, .int 0, .int 0, .int 0, .long 0, .int 0, .int 0, .int 0, .int (-1), .ref (mm 6), .ref (mm 7), .ref (mm 8), .ref (mm 9), .ref (mm 10), .ref (mm 11), .ref (mm 12), .ref (mm 13), .int 0, .ref (mm 14), .ref (mm 15), .ref (mm 16), .ref (mm 17), .int 0, .int 0, .int 0, .ref (mm 18), .ref (mm 19), .int 0, .int 0, .ref (mm 20), .ref (mm 21), .ref (mm 22), .int 0, .int 0, .int 0, .int 0, .ref (mm 23), .ref (mm 24), .ref (mm 25), .int 0])), ((mm 7), .inl (E.2.2 0, 25, .inl (fun _ => 0)))]) (aX9_when_115 E q1 (bb 16) (bb 17) (bb 1) (bb 36) (bb 37) (bb 40) (bb 46) (bb 49) (bb 52) (bb 54) (bb 30) (bb 31) (bb 32) (bb 33) (bb 34) (bb 35) (bb 18) (bb 19) (bb 20) (bb 21) (bb 22) (bb 23) (bb 24) (bb 25) (bb 26) (bb 27) (bb 28) (bb 29) (xs 1) (xs 2) (xs 3)) mp_lkL_155 0 rfl [0, 16, 17] [58, 65] rfl rfl rfl rfl rfl ⟨(Nat.le_of_ble_eq_true rfl), (Nat.le_of_ble_eq_true rfl), (Nat.le_of_ble_eq_true rfl), (Nat.le_of_ble_eq_true rfl)⟩ (Nat.le_of_ble_eq_true rfl) (by decide +kernel) (fun v7 w8 h9 => ?_)
  obtain ⟨rfl, rfl⟩ := h9
  show mp_W E X 4 1270 [(3, .int 0), (2, .ref q2), (1, .ref q1), (0, .ref b)] [.int (-2)] [(q2, .inr (10, [.int 0, .ref (mm 1), .ref (mm 2), .ref (mm 3), .ref (mm 4), .ref (mm 5), .int 0, .int 0, .int 0, .int 0, .int 0, .long 0, .int 0, .int 0, .int 0, .int (-1), .ref (mm 6), .ref (mm 7), .ref (mm 8), .ref (mm 9), .ref (mm 10), .ref (mm 11), .ref (mm 12), .ref (mm 13), .int 0, .ref (mm 14), .ref (mm 15), .ref (mm 16), .ref (mm 17), .int 0, .int 0, .int 0, .ref (mm 18), .ref (mm 19), .int 0, .int 0, .ref (mm 20), .ref (mm 21), .ref (mm 22), .int 0, .int 0, .int 0, .int 0, .ref (mm 23), .ref (mm 24), .ref (mm 25), .int 0])), ((mm 7), .inl (E.2.2 0, 25, .inl (fun _ => 0)))] 84 11441
  refine mp_run hF mp_tabL_ok [mp_i (.aload_n 2), mp_i (.aload_n 0), mp_i (.iload_n 3), mp_c (.iconst 1) 1, mp_i .iadd] (by decide +kernel) ?_
  intro z10 h11
  obtain rfl : z10 = 1 := h11.trans (by decide)
  show mp_W E X 4 1275 [(3, .int 0), (2, .ref q2), (1, .ref q1), (0, .ref b)] [.int 1, .ref b, .ref q2, .int (-2)] [(q2, .inr (10, [.int 0, .ref (mm 1), .ref (mm 2), .ref (mm 3), .ref (mm 4), .ref (mm 5), .int 0, .int 0, .int 0, .int 0, .int 0, .long 0, .int 0, .int 0, .int 0, .int (-1), .ref (mm 6), .ref (mm 7), .ref (mm 8), .ref (mm 9), .ref (mm 10), .ref (mm 11), .ref (mm 12), .ref (mm 13), .int 0, .ref (mm 14), .ref (mm 15), .ref (mm 16), .ref (mm 17), .int 0, .int 0, .int 0, .ref (mm 18), .ref (mm 19), .int 0, .int 0, .ref (mm 20), .ref (mm 21), .ref (mm 22), .int 0, .int 0, .int 0, .int 0, .ref (mm 23), .ref (mm 24), .ref (mm 25), .int 0])), ((mm 7), .inl (E.2.2 0, 25, .inl (fun _ => 0)))] 84 11441
  refine mp_lsld hL 1 (by decide) (by decide) (by decide) (by decide +kernel) ?_
  show mp_W E X 4 1276 [(3, .int 0), (2, .ref q2), (1, .ref q1), (0, .ref b)] [.int (xs 1), .ref q2, .int (-2)] [(q2, .inr (10, [.int 0, .ref (mm 1), .ref (mm 2), .ref (mm 3), .ref (mm 4), .ref (mm 5), .int 0, .int 0, .int 0, .int 0, .int 0, .long 0, .int 0, .int 0, .int 0, .int (-1), .ref (mm 6), .ref (mm 7), .ref (mm 8), .ref (mm 9), .ref (mm 10), .ref (mm 11), .ref (mm 12), .ref (mm 13), .int 0, .ref (mm 14), .ref (mm 15), .ref (mm 16), .ref (mm 17), .int 0, .int 0, .int 0, .ref (mm 18), .ref (mm 19), .int 0, .int 0, .ref (mm 20), .ref (mm 21), .ref (mm 22), .int 0, .int 0, .int 0, .int 0, .ref (mm 23), .ref (mm 24), .ref (mm 25), .int 0])), ((mm 7), .inl (E.2.2 0, 25, .inl (fun _ => 0)))] 84 11441
  refine mp_run hF mp_tabL_ok [mp_i (.aload_n 0), mp_i (.iload_n 3), mp_c (.iconst 2) 2, mp_i .iadd] (by decide +kernel) ?_
  intro z12 h13
  obtain rfl : z12 = 2 := h13.trans (by decide)
  show mp_W E X 4 1280 [(3, .int 0), (2, .ref q2), (1, .ref q1), (0, .ref b)] [.int 2, .ref b, .int (xs 1), .ref q2, .int (-2)] [(q2, .inr (10, [.int 0, .ref (mm 1), .ref (mm 2), .ref (mm 3), .ref (mm 4), .ref (mm 5), .int 0, .int 0, .int 0, .int 0, .int 0, .long 0, .int 0, .int 0, .int 0, .int (-1), .ref (mm 6), .ref (mm 7), .ref (mm 8), .ref (mm 9), .ref (mm 10), .ref (mm 11), .ref (mm 12), .ref (mm 13), .int 0, .ref (mm 14), .ref (mm 15), .ref (mm 16), .ref (mm 17), .int 0, .int 0, .int 0, .ref (mm 18), .ref (mm 19), .int 0, .int 0, .ref (mm 20), .ref (mm 21), .ref (mm 22), .int 0, .int 0, .int 0, .int 0, .ref (mm 23), .ref (mm 24), .ref (mm 25), .int 0])), ((mm 7), .inl (E.2.2 0, 25, .inl (fun _ => 0)))] 84 11441
  refine mp_lsld hL 2 (by decide) (by decide) (by decide) (by decide +kernel) ?_
  show mp_W E X 4 1281 [(3, .int 0), (2, .ref q2), (1, .ref q1), (0, .ref b)] [.int (xs 2), .int (xs 1), .ref q2, .int (-2)] [(q2, .inr (10, [.int 0, .ref (mm 1), .ref (mm 2), .ref (mm 3), .ref (mm 4), .ref (mm 5), .int 0, .int 0, .int 0, .int 0, .int 0, .long 0, .int 0, .int 0, .int 0, .int (-1), .ref (mm 6), .ref (mm 7), .ref (mm 8), .ref (mm 9), .ref (mm 10), .ref (mm 11), .ref (mm 12), .ref (mm 13), .int 0, .ref (mm 14), .ref (mm 15), .ref (mm 16), .ref (mm 17), .int 0, .int 0, .int 0, .ref (mm 18), .ref (mm 19), .int 0, .int 0, .ref (mm 20), .ref (mm 21), .ref (mm 22), .int 0, .int 0, .int 0, .int 0, .ref (mm 23), .ref (mm 24), .ref (mm 25), .int 0])), ((mm 7), .inl (E.2.2 0, 25, .inl (fun _ => 0)))] 84 11441
  refine mp_run hF mp_tabL_ok [mp_i (.aload_n 0), mp_i (.iload_n 3), mp_c (.iconst 3) 3, mp_i .iadd] (by decide +kernel) ?_
  intro z14 h15
  obtain rfl : z14 = 3 := h15.trans (by decide)
  show mp_W E X 4 1285 [(3, .int 0), (2, .ref q2), (1, .ref q1), (0, .ref b)] [.int 3, .ref b, .int (xs 2), .int (xs 1), .ref q2, .int (-2)] [(q2, .inr (10, [.int 0, .ref (mm 1), .ref (mm 2), .ref (mm 3), .ref (mm 4), .ref (mm 5), .int 0, .int 0, .int 0, .int 0, .int 0, .long 0, .int 0, .int 0, .int 0, .int (-1), .ref (mm 6), .ref (mm 7), .ref (mm 8), .ref (mm 9), .ref (mm 10), .ref (mm 11), .ref (mm 12), .ref (mm 13), .int 0, .ref (mm 14), .ref (mm 15), .ref (mm 16), .ref (mm 17), .int 0, .int 0, .int 0, .ref (mm 18), .ref (mm 19), .int 0, .int 0, .ref (mm 20), .ref (mm 21), .ref (mm 22), .int 0, .int 0, .int 0, .int 0, .ref (mm 23), .ref (mm 24), .ref (mm 25), .int 0])), ((mm 7), .inl (E.2.2 0, 25, .inl (fun _ => 0)))] 84 11441
  refine mp_lsld hL 3 (by decide) (by decide) (by decide) (by decide +kernel) ?_
  show mp_W E X 4 1286 [(3, .int 0), (2, .ref q2), (1, .ref q1), (0, .ref b)] [.int (xs 3), .int (xs 2), .int (xs 1), .ref q2, .int (-2)] [(q2, .inr (10, [.int 0, .ref (mm 1), .ref (mm 2), .ref (mm 3), .ref (mm 4), .ref (mm 5), .int 0, .int 0, .int 0, .int 0, .int 0, .long 0, .int 0, .int 0, .int 0, .int (-1), .ref (mm 6), .ref (mm 7), .ref (mm 8), .ref (mm 9), .ref (mm 10), .ref (mm 11), .ref (mm 12), .ref (mm 13), .int 0, .ref (mm 14), .ref (mm 15), .ref (mm 16), .ref (mm 17), .int 0, .int 0, .int 0, .ref (mm 18), .ref (mm 19), .int 0, .int 0, .ref (mm 20), .ref (mm 21), .ref (mm 22), .int 0, .int 0, .int 0, .int 0, .ref (mm 23), .ref (mm 24), .ref (mm 25), .int 0])), ((mm 7), .inl (E.2.2 0, 25, .inl (fun _ => 0)))] 84 11441
  refine mp_callV hF (As := [.int (xs 1), .int (xs 2), .int (xs 3)]) (rest := [.int (-2)]) (wr := []) (aX10_when_116 E q2 (mm 7) (mm 1) (mm 2) (mm 3) (mm 4) (mm 5) (mm 6) (mm 8) (mm 9) (mm 10) (mm 11) (mm 12) (mm 13) (mm 14) (mm 15) (mm 16) (mm 17) (mm 18) (mm 19) (mm 20) (mm 21) (mm 22) (mm 23) (mm 24) (mm 25) (xs 1) (xs 2) (xs 3)) mp_lkL_158 0 rfl [0, 1] [] rfl rfl rfl rfl rfl ⟨(Nat.le_of_ble_eq_true rfl), (Nat.le_of_ble_eq_true rfl), (Nat.le_of_ble_eq_true rfl), (Nat.le_of_ble_eq_true rfl)⟩ (Nat.le_of_ble_eq_true rfl) (by decide +kernel) (fun v16 w17 h18 => ?_)
  obtain ⟨rfl, rfl⟩ := h18
  show mp_W E X 4 1289 [(3, .int 0), (2, .ref q2), (1, .ref q1), (0, .ref b)] [.int (-2), .int (-2)] [] 84 11441
  refine mp_run hF mp_tabL_ok [mp_h (.if_icmp .eq 930) [2219]] (by decide +kernel) ?_
  refine And.intro (fun _ => ?_) (fun c19 => absurd c19 (by decide))
  show mp_W E X 4 2219 [(3, .int 0), (2, .ref q2), (1, .ref q1), (0, .ref b)] [] [] 84 11441
  exact mp_sub [3, 0] rfl [] rfl rfl (mp_lw_next hL (Nat.le_of_ble_eq_true rfl) (Nat.le_of_ble_eq_true rfl))

set_option maxHeartbeats 4000000 in
set_option maxRecDepth 100000 in
theorem mp_case_35 {E : mp_E} {X : mp_X} {b : Nat} {xs : Nat → Int32} (hL : mp_Lw E X b 6 xs) (q1 q2 : Nat) (bb mm : Nat → Nat) (vs ln wd : Nat → Int32) (hln : ∀ j, j < 4 → ln j = -1) (hwd : ∀ j, j < 4 → wd j = -1) : mp_W E X 4 1294 [(3, .int 0), (2, .ref q2), (1, .ref q1), (0, .ref b)] [] (mp_w0 E q1 q2 bb mm vs ln wd) 84 11441 := by
  have hF : mp_F E X (RL, code, 4, (2048, 600000, 7302250, 84000), ret, false) := hL.1
  show mp_W E X 4 1294 [(3, .int 0), (2, .ref q2), (1, .ref q1), (0, .ref b)] [] (mp_w0 E q1 q2 bb mm vs ln wd) 84 11441
  refine mp_run hF mp_tabL_ok [mp_i (.aload_n 1), mp_i (.aload_n 0), mp_i (.iload_n 3), mp_c (.iconst 1) 1, mp_i .iadd] (by decide +kernel) ?_
  intro z1 h2
  obtain rfl : z1 = 1 := h2.trans (by decide)
  show mp_W E X 4 1299 [(3, .int 0), (2, .ref q2), (1, .ref q1), (0, .ref b)] [.int 1, .ref b, .ref q1] (mp_w0 E q1 q2 bb mm vs ln wd) 84 11441
  refine mp_lsld hL 1 (by decide) (by decide) (by decide) (by decide +kernel) ?_
  show mp_W E X 4 1300 [(3, .int 0), (2, .ref q2), (1, .ref q1), (0, .ref b)] [.int (xs 1), .ref q1] (mp_w0 E q1 q2 bb mm vs ln wd) 84 11441
  refine mp_run hF mp_tabL_ok [mp_i (.aload_n 0), mp_i (.iload_n 3), mp_c (.iconst 2) 2, mp_i .iadd] (by decide +kernel) ?_
  intro z3 h4
  obtain rfl : z3 = 2 := h4.trans (by decide)
  show mp_W E X 4 1304 [(3, .int 0), (2, .ref q2), (1, .ref q1), (0, .ref b)] [.int 2, .ref b, .int (xs 1), .ref q1] (mp_w0 E q1 q2 bb mm vs ln wd) 84 11441
  refine mp_lsld hL 2 (by decide) (by decide) (by decide) (by decide +kernel) ?_
  show mp_W E X 4 1305 [(3, .int 0), (2, .ref q2), (1, .ref q1), (0, .ref b)] [.int (xs 2), .int (xs 1), .ref q1] (mp_w0 E q1 q2 bb mm vs ln wd) 84 11441
  refine mp_callV hF (As := [.int (xs 1), .int (xs 2)]) (rest := []) (wr := [(q2, .inr (10, [.int 0, .ref (mm 1), .ref (mm 2), .ref (mm 3), .ref (mm 4), .ref (mm 5), .int 0, .int 0, .int 0, .int 0, .int 0, .long 0, .int 0, .int 0, .int 0, .int (-1), .ref (mm 6), .ref (mm 7), .ref (mm 8), .ref (mm 9), .ref (mm 10), .ref (mm 11), .ref (mm 12), .ref (mm 13), .int 0, .ref (mm 14), .ref (mm 15), .ref (mm 16), .ref (mm 17), .int 0, .int 0, .int 0, .ref (mm 18), .ref (mm 19), .int 0, .int 0, .ref (mm 20), .ref (mm 21), .ref (mm 22), .int 0, .int 0, .int 0, .int 0, .ref (mm 23), .ref (mm 24), .ref (mm 25), .int 0])), ((mm 7), .inl (E.2.2 0, 25, .inl (fun _ => 0)))]) (aX9_joins_117 E q1 (bb 16) (bb 17) (bb 1) (bb 36) (bb 37) (bb 40) (bb 46) (bb 49) (bb 52) (bb 54) (bb 30) (bb 31) (bb 32) (bb 33) (bb 34) (bb 35) (bb 18) (bb 19) (bb 20) (bb 21) (bb 22) (bb 23) (bb 24) (bb 25) (bb 26) (bb 27) (bb 28) (bb 29) (xs 1) (xs 2)) mp_lkL_159 0 rfl [0, 16, 17] [58, 65] rfl rfl rfl rfl rfl ⟨(Nat.le_of_ble_eq_true rfl), (Nat.le_of_ble_eq_true rfl), (Nat.le_of_ble_eq_true rfl), (Nat.le_of_ble_eq_true rfl)⟩ (Nat.le_of_ble_eq_true rfl) (by decide +kernel) (fun v5 w6 h7 => ?_)
  obtain ⟨rfl, rfl⟩ := h7
  show mp_W E X 4 1308 [(3, .int 0), (2, .ref q2), (1, .ref q1), (0, .ref b)] [.int (-2)] [(q2, .inr (10, [.int 0, .ref (mm 1), .ref (mm 2), .ref (mm 3), .ref (mm 4), .ref (mm 5), .int 0, .int 0, .int 0, .int 0, .int 0, .long 0, .int 0, .int 0, .int 0, .int (-1), .ref (mm 6), .ref (mm 7), .ref (mm 8), .ref (mm 9), .ref (mm 10), .ref (mm 11), .ref (mm 12), .ref (mm 13), .int 0, .ref (mm 14), .ref (mm 15), .ref (mm 16), .ref (mm 17), .int 0, .int 0, .int 0, .ref (mm 18), .ref (mm 19), .int 0, .int 0, .ref (mm 20), .ref (mm 21), .ref (mm 22), .int 0, .int 0, .int 0, .int 0, .ref (mm 23), .ref (mm 24), .ref (mm 25), .int 0])), ((mm 7), .inl (E.2.2 0, 25, .inl (fun _ => 0)))] 84 11441
  refine mp_run hF mp_tabL_ok [mp_i (.aload_n 2), mp_i (.aload_n 0), mp_i (.iload_n 3), mp_c (.iconst 1) 1, mp_i .iadd] (by decide +kernel) ?_
  intro z8 h9
  obtain rfl : z8 = 1 := h9.trans (by decide)
  show mp_W E X 4 1313 [(3, .int 0), (2, .ref q2), (1, .ref q1), (0, .ref b)] [.int 1, .ref b, .ref q2, .int (-2)] [(q2, .inr (10, [.int 0, .ref (mm 1), .ref (mm 2), .ref (mm 3), .ref (mm 4), .ref (mm 5), .int 0, .int 0, .int 0, .int 0, .int 0, .long 0, .int 0, .int 0, .int 0, .int (-1), .ref (mm 6), .ref (mm 7), .ref (mm 8), .ref (mm 9), .ref (mm 10), .ref (mm 11), .ref (mm 12), .ref (mm 13), .int 0, .ref (mm 14), .ref (mm 15), .ref (mm 16), .ref (mm 17), .int 0, .int 0, .int 0, .ref (mm 18), .ref (mm 19), .int 0, .int 0, .ref (mm 20), .ref (mm 21), .ref (mm 22), .int 0, .int 0, .int 0, .int 0, .ref (mm 23), .ref (mm 24), .ref (mm 25), .int 0])), ((mm 7), .inl (E.2.2 0, 25, .inl (fun _ => 0)))] 84 11441
  refine mp_lsld hL 1 (by decide) (by decide) (by decide) (by decide +kernel) ?_
  show mp_W E X 4 1314 [(3, .int 0), (2, .ref q2), (1, .ref q1), (0, .ref b)] [.int (xs 1), .ref q2, .int (-2)] [(q2, .inr (10, [.int 0, .ref (mm 1), .ref (mm 2), .ref (mm 3), .ref (mm 4), .ref (mm 5), .int 0, .int 0, .int 0, .int 0, .int 0, .long 0, .int 0, .int 0, .int 0, .int (-1), .ref (mm 6), .ref (mm 7), .ref (mm 8), .ref (mm 9), .ref (mm 10), .ref (mm 11), .ref (mm 12), .ref (mm 13), .int 0, .ref (mm 14), .ref (mm 15), .ref (mm 16), .ref (mm 17), .int 0, .int 0, .int 0, .ref (mm 18), .ref (mm 19), .int 0, .int 0, .ref (mm 20), .ref (mm 21), .ref (mm 22), .int 0, .int 0, .int 0, .int 0, .ref (mm 23), .ref (mm 24), .ref (mm 25), .int 0])), ((mm 7), .inl (E.2.2 0, 25, .inl (fun _ => 0)))] 84 11441
  refine mp_run hF mp_tabL_ok [mp_i (.aload_n 0), mp_i (.iload_n 3), mp_c (.iconst 2) 2, mp_i .iadd] (by decide +kernel) ?_
  intro z10 h11
  obtain rfl : z10 = 2 := h11.trans (by decide)
  show mp_W E X 4 1318 [(3, .int 0), (2, .ref q2), (1, .ref q1), (0, .ref b)] [.int 2, .ref b, .int (xs 1), .ref q2, .int (-2)] [(q2, .inr (10, [.int 0, .ref (mm 1), .ref (mm 2), .ref (mm 3), .ref (mm 4), .ref (mm 5), .int 0, .int 0, .int 0, .int 0, .int 0, .long 0, .int 0, .int 0, .int 0, .int (-1), .ref (mm 6), .ref (mm 7), .ref (mm 8), .ref (mm 9), .ref (mm 10), .ref (mm 11), .ref (mm 12), .ref (mm 13), .int 0, .ref (mm 14), .ref (mm 15), .ref (mm 16), .ref (mm 17), .int 0, .int 0, .int 0, .ref (mm 18), .ref (mm 19), .int 0, .int 0, .ref (mm 20), .ref (mm 21), .ref (mm 22), .int 0, .int 0, .int 0, .int 0, .ref (mm 23), .ref (mm 24), .ref (mm 25), .int 0])), ((mm 7), .inl (E.2.2 0, 25, .inl (fun _ => 0)))] 84 11441
  refine mp_lsld hL 2 (by decide) (by decide) (by decide) (by decide +kernel) ?_
  show mp_W E X 4 1319 [(3, .int 0), (2, .ref q2), (1, .ref q1), (0, .ref b)] [.int (xs 2), .int (xs 1), .ref q2, .int (-2)] [(q2, .inr (10, [.int 0, .ref (mm 1), .ref (mm 2), .ref (mm 3), .ref (mm 4), .ref (mm 5), .int 0, .int 0, .int 0, .int 0, .int 0, .long 0, .int 0, .int 0, .int 0, .int (-1), .ref (mm 6), .ref (mm 7), .ref (mm 8), .ref (mm 9), .ref (mm 10), .ref (mm 11), .ref (mm 12), .ref (mm 13), .int 0, .ref (mm 14), .ref (mm 15), .ref (mm 16), .ref (mm 17), .int 0, .int 0, .int 0, .ref (mm 18), .ref (mm 19), .int 0, .int 0, .ref (mm 20), .ref (mm 21), .ref (mm 22), .int 0, .int 0, .int 0, .int 0, .ref (mm 23), .ref (mm 24), .ref (mm 25), .int 0])), ((mm 7), .inl (E.2.2 0, 25, .inl (fun _ => 0)))] 84 11441
  refine mp_callV hF (As := [.int (xs 1), .int (xs 2)]) (rest := [.int (-2)]) (wr := []) (aX10_joins_118 E q2 (mm 7) (mm 1) (mm 2) (mm 3) (mm 4) (mm 5) (mm 6) (mm 8) (mm 9) (mm 10) (mm 11) (mm 12) (mm 13) (mm 14) (mm 15) (mm 16) (mm 17) (mm 18) (mm 19) (mm 20) (mm 21) (mm 22) (mm 23) (mm 24) (mm 25) (xs 1) (xs 2)) mp_lkL_162 0 rfl [0, 1] [] rfl rfl rfl rfl rfl ⟨(Nat.le_of_ble_eq_true rfl), (Nat.le_of_ble_eq_true rfl), (Nat.le_of_ble_eq_true rfl), (Nat.le_of_ble_eq_true rfl)⟩ (Nat.le_of_ble_eq_true rfl) (by decide +kernel) (fun v12 w13 h14 => ?_)
  obtain ⟨rfl, rfl⟩ := h14
  show mp_W E X 4 1322 [(3, .int 0), (2, .ref q2), (1, .ref q1), (0, .ref b)] [.int (-2), .int (-2)] [] 84 11441
  refine mp_run hF mp_tabL_ok [mp_h (.if_icmp .eq 897) [2219]] (by decide +kernel) ?_
  refine And.intro (fun _ => ?_) (fun c15 => absurd c15 (by decide))
  show mp_W E X 4 2219 [(3, .int 0), (2, .ref q2), (1, .ref q1), (0, .ref b)] [] [] 84 11441
  exact mp_sub [3, 0] rfl [] rfl rfl (mp_lw_next hL (Nat.le_of_ble_eq_true rfl) (Nat.le_of_ble_eq_true rfl))

set_option maxHeartbeats 4000000 in
set_option maxRecDepth 100000 in
theorem mp_case_36 {E : mp_E} {X : mp_X} {b : Nat} {xs : Nat → Int32} (hL : mp_Lw E X b 6 xs) (q1 q2 : Nat) (bb mm : Nat → Nat) (vs ln wd : Nat → Int32) (hln : ∀ j, j < 4 → ln j = -1) (hwd : ∀ j, j < 4 → wd j = -1) : mp_W E X 4 1327 [(3, .int 0), (2, .ref q2), (1, .ref q1), (0, .ref b)] [] (mp_w0 E q1 q2 bb mm vs ln wd) 84 11441 := by
  have hF : mp_F E X (RL, code, 4, (2048, 600000, 7302250, 84000), ret, false) := hL.1
  show mp_W E X 4 1327 [(3, .int 0), (2, .ref q2), (1, .ref q1), (0, .ref b)] [] (mp_w0 E q1 q2 bb mm vs ln wd) 84 11441
  refine mp_run hF mp_tabL_ok [mp_i (.aload_n 1)] (by decide +kernel) ?_
  show mp_W E X 4 1328 [(3, .int 0), (2, .ref q2), (1, .ref q1), (0, .ref b)] [.ref q1] (mp_w0 E q1 q2 bb mm vs ln wd) 84 11441
  refine mp_callV hF (As := []) (rest := []) (wr := [(q2, .inr (10, [.int 0, .ref (mm 1), .ref (mm 2), .ref (mm 3), .ref (mm 4), .ref (mm 5), .int 0, .int 0, .int 0, .int 0, .int 0, .long 0, .int 0, .int 0, .int 0, .int (-1), .ref (mm 6), .ref (mm 7), .ref (mm 8), .ref (mm 9), .ref (mm 10), .ref (mm 11), .ref (mm 12), .ref (mm 13), .int 0, .ref (mm 14), .ref (mm 15), .ref (mm 16), .ref (mm 17), .int 0, .int 0, .int 0, .ref (mm 18), .ref (mm 19), .int 0, .int 0, .ref (mm 20), .ref (mm 21), .ref (mm 22), .int 0, .int 0, .int 0, .int 0, .ref (mm 23), .ref (mm 24), .ref (mm 25), .int 0])), ((mm 6), .inl (E.2.2 0, 5, .inl (fun _ => 0)))]) (aX9_joined_119 E q1 (bb 16) (bb 17) (bb 1) (bb 36) (bb 37) (bb 40) (bb 46) (bb 49) (bb 52) (bb 54) (bb 30) (bb 31) (bb 32) (bb 33) (bb 34) (bb 35) (bb 18) (bb 19) (bb 20) (bb 21) (bb 22) (bb 23) (bb 24) (bb 25) (bb 26) (bb 27) (bb 28) (bb 29)) mp_lkL_163 0 rfl [0, 16, 17] [58, 64] rfl rfl rfl rfl rfl ⟨(Nat.le_of_ble_eq_true rfl), (Nat.le_of_ble_eq_true rfl), (Nat.le_of_ble_eq_true rfl), (Nat.le_of_ble_eq_true rfl)⟩ (Nat.le_of_ble_eq_true rfl) (by decide +kernel) (fun v1 w2 h3 => ?_)
  obtain ⟨rfl, rfl⟩ := h3
  show mp_W E X 4 1331 [(3, .int 0), (2, .ref q2), (1, .ref q1), (0, .ref b)] [.int (-2)] [(q2, .inr (10, [.int 0, .ref (mm 1), .ref (mm 2), .ref (mm 3), .ref (mm 4), .ref (mm 5), .int 0, .int 0, .int 0, .int 0, .int 0, .long 0, .int 0, .int 0, .int 0, .int (-1), .ref (mm 6), .ref (mm 7), .ref (mm 8), .ref (mm 9), .ref (mm 10), .ref (mm 11), .ref (mm 12), .ref (mm 13), .int 0, .ref (mm 14), .ref (mm 15), .ref (mm 16), .ref (mm 17), .int 0, .int 0, .int 0, .ref (mm 18), .ref (mm 19), .int 0, .int 0, .ref (mm 20), .ref (mm 21), .ref (mm 22), .int 0, .int 0, .int 0, .int 0, .ref (mm 23), .ref (mm 24), .ref (mm 25), .int 0])), ((mm 6), .inl (E.2.2 0, 5, .inl (fun _ => 0)))] 84 11441
  refine mp_run hF mp_tabL_ok [mp_i (.aload_n 2)] (by decide +kernel) ?_
  show mp_W E X 4 1332 [(3, .int 0), (2, .ref q2), (1, .ref q1), (0, .ref b)] [.ref q2, .int (-2)] [(q2, .inr (10, [.int 0, .ref (mm 1), .ref (mm 2), .ref (mm 3), .ref (mm 4), .ref (mm 5), .int 0, .int 0, .int 0, .int 0, .int 0, .long 0, .int 0, .int 0, .int 0, .int (-1), .ref (mm 6), .ref (mm 7), .ref (mm 8), .ref (mm 9), .ref (mm 10), .ref (mm 11), .ref (mm 12), .ref (mm 13), .int 0, .ref (mm 14), .ref (mm 15), .ref (mm 16), .ref (mm 17), .int 0, .int 0, .int 0, .ref (mm 18), .ref (mm 19), .int 0, .int 0, .ref (mm 20), .ref (mm 21), .ref (mm 22), .int 0, .int 0, .int 0, .int 0, .ref (mm 23), .ref (mm 24), .ref (mm 25), .int 0])), ((mm 6), .inl (E.2.2 0, 5, .inl (fun _ => 0)))] 84 11441
  refine mp_callV hF (As := []) (rest := [.int (-2)]) (wr := []) (aX10_joined_120 E q2 (mm 6) (mm 1) (mm 2) (mm 3) (mm 4) (mm 5) (mm 7) (mm 8) (mm 9) (mm 10) (mm 11) (mm 12) (mm 13) (mm 14) (mm 15) (mm 16) (mm 17) (mm 18) (mm 19) (mm 20) (mm 21) (mm 22) (mm 23) (mm 24) (mm 25)) mp_lkL_166 0 rfl [0, 1] [] rfl rfl rfl rfl rfl ⟨(Nat.le_of_ble_eq_true rfl), (Nat.le_of_ble_eq_true rfl), (Nat.le_of_ble_eq_true rfl), (Nat.le_of_ble_eq_true rfl)⟩ (Nat.le_of_ble_eq_true rfl) (by decide +kernel) (fun v4 w5 h6 => ?_)
  obtain ⟨rfl, rfl⟩ := h6
  show mp_W E X 4 1335 [(3, .int 0), (2, .ref q2), (1, .ref q1), (0, .ref b)] [.int (-2), .int (-2)] [] 84 11441
  refine mp_run hF mp_tabL_ok [mp_h (.if_icmp .eq 884) [2219]] (by decide +kernel) ?_
  refine And.intro (fun _ => ?_) (fun c7 => absurd c7 (by decide))
  show mp_W E X 4 2219 [(3, .int 0), (2, .ref q2), (1, .ref q1), (0, .ref b)] [] [] 84 11441
  exact mp_sub [3, 0] rfl [] rfl rfl (mp_lw_next hL (Nat.le_of_ble_eq_true rfl) (Nat.le_of_ble_eq_true rfl))

set_option maxHeartbeats 4000000 in
set_option maxRecDepth 100000 in
theorem mp_case_37 {E : mp_E} {X : mp_X} {b : Nat} {xs : Nat → Int32} (hL : mp_Lw E X b 6 xs) (q1 q2 : Nat) (bb mm : Nat → Nat) (vs ln wd : Nat → Int32) (hln : ∀ j, j < 4 → ln j = -1) (hwd : ∀ j, j < 4 → wd j = -1) : mp_W E X 4 1340 [(3, .int 0), (2, .ref q2), (1, .ref q1), (0, .ref b)] [] (mp_w0 E q1 q2 bb mm vs ln wd) 84 11441 := by
  have hF : mp_F E X (RL, code, 4, (2048, 600000, 7302250, 84000), ret, false) := hL.1
  show mp_W E X 4 1340 [(3, .int 0), (2, .ref q2), (1, .ref q1), (0, .ref b)] [] (mp_w0 E q1 q2 bb mm vs ln wd) 84 11441
  refine mp_run hF mp_tabL_ok [mp_i (.aload_n 1), mp_i (.aload_n 0), mp_i (.iload_n 3), mp_c (.iconst 1) 1, mp_i .iadd] (by decide +kernel) ?_
  intro z1 h2
  obtain rfl : z1 = 1 := h2.trans (by decide)
  show mp_W E X 4 1345 [(3, .int 0), (2, .ref q2), (1, .ref q1), (0, .ref b)] [.int 1, .ref b, .ref q1] (mp_w0 E q1 q2 bb mm vs ln wd) 84 11441
  refine mp_lsld hL 1 (by decide) (by decide) (by decide) (by decide +kernel) ?_
  show mp_W E X 4 1346 [(3, .int 0), (2, .ref q2), (1, .ref q1), (0, .ref b)] [.int (xs 1), .ref q1] (mp_w0 E q1 q2 bb mm vs ln wd) 84 11441
  refine mp_callV hF (As := [.int (xs 1)]) (rest := []) (wr := [(q2, .inr (10, [.int 0, .ref (mm 1), .ref (mm 2), .ref (mm 3), .ref (mm 4), .ref (mm 5), .int 0, .int 0, .int 0, .int 0, .int 0, .long 0, .int 0, .int 0, .int 0, .int (-1), .ref (mm 6), .ref (mm 7), .ref (mm 8), .ref (mm 9), .ref (mm 10), .ref (mm 11), .ref (mm 12), .ref (mm 13), .int 0, .ref (mm 14), .ref (mm 15), .ref (mm 16), .ref (mm 17), .int 0, .int 0, .int 0, .ref (mm 18), .ref (mm 19), .int 0, .int 0, .ref (mm 20), .ref (mm 21), .ref (mm 22), .int 0, .int 0, .int 0, .int 0, .ref (mm 23), .ref (mm 24), .ref (mm 25), .int 0])), ((mm 6), .inl (E.2.2 0, 5, .inl (fun _ => 0)))]) (aX9_ring_121 E q1 (bb 16) (bb 17) (bb 1) (bb 36) (bb 37) (bb 40) (bb 46) (bb 49) (bb 52) (bb 54) (bb 30) (bb 31) (bb 32) (bb 33) (bb 34) (bb 35) (bb 18) (bb 19) (bb 20) (bb 21) (bb 22) (bb 23) (bb 24) (bb 25) (bb 26) (bb 27) (bb 28) (bb 29) (xs 1)) mp_lkL_167 0 rfl [0, 16, 17] [58, 64] rfl rfl rfl rfl rfl ⟨(Nat.le_of_ble_eq_true rfl), (Nat.le_of_ble_eq_true rfl), (Nat.le_of_ble_eq_true rfl), (Nat.le_of_ble_eq_true rfl)⟩ (Nat.le_of_ble_eq_true rfl) (by decide +kernel) (fun v3 w4 h5 => ?_)
  obtain ⟨rfl, rfl⟩ := h5
  show mp_W E X 4 1349 [(3, .int 0), (2, .ref q2), (1, .ref q1), (0, .ref b)] [.int (-2)] [(q2, .inr (10, [.int 0, .ref (mm 1), .ref (mm 2), .ref (mm 3), .ref (mm 4), .ref (mm 5), .int 0, .int 0, .int 0, .int 0, .int 0, .long 0, .int 0, .int 0, .int 0, .int (-1), .ref (mm 6), .ref (mm 7), .ref (mm 8), .ref (mm 9), .ref (mm 10), .ref (mm 11), .ref (mm 12), .ref (mm 13), .int 0, .ref (mm 14), .ref (mm 15), .ref (mm 16), .ref (mm 17), .int 0, .int 0, .int 0, .ref (mm 18), .ref (mm 19), .int 0, .int 0, .ref (mm 20), .ref (mm 21), .ref (mm 22), .int 0, .int 0, .int 0, .int 0, .ref (mm 23), .ref (mm 24), .ref (mm 25), .int 0])), ((mm 6), .inl (E.2.2 0, 5, .inl (fun _ => 0)))] 84 11441
  refine mp_run hF mp_tabL_ok [mp_i (.aload_n 2), mp_i (.aload_n 0), mp_i (.iload_n 3), mp_c (.iconst 1) 1, mp_i .iadd] (by decide +kernel) ?_
  intro z6 h7
  obtain rfl : z6 = 1 := h7.trans (by decide)
  show mp_W E X 4 1354 [(3, .int 0), (2, .ref q2), (1, .ref q1), (0, .ref b)] [.int 1, .ref b, .ref q2, .int (-2)] [(q2, .inr (10, [.int 0, .ref (mm 1), .ref (mm 2), .ref (mm 3), .ref (mm 4), .ref (mm 5), .int 0, .int 0, .int 0, .int 0, .int 0, .long 0, .int 0, .int 0, .int 0, .int (-1), .ref (mm 6), .ref (mm 7), .ref (mm 8), .ref (mm 9), .ref (mm 10), .ref (mm 11), .ref (mm 12), .ref (mm 13), .int 0, .ref (mm 14), .ref (mm 15), .ref (mm 16), .ref (mm 17), .int 0, .int 0, .int 0, .ref (mm 18), .ref (mm 19), .int 0, .int 0, .ref (mm 20), .ref (mm 21), .ref (mm 22), .int 0, .int 0, .int 0, .int 0, .ref (mm 23), .ref (mm 24), .ref (mm 25), .int 0])), ((mm 6), .inl (E.2.2 0, 5, .inl (fun _ => 0)))] 84 11441
  refine mp_lsld hL 1 (by decide) (by decide) (by decide) (by decide +kernel) ?_
  show mp_W E X 4 1355 [(3, .int 0), (2, .ref q2), (1, .ref q1), (0, .ref b)] [.int (xs 1), .ref q2, .int (-2)] [(q2, .inr (10, [.int 0, .ref (mm 1), .ref (mm 2), .ref (mm 3), .ref (mm 4), .ref (mm 5), .int 0, .int 0, .int 0, .int 0, .int 0, .long 0, .int 0, .int 0, .int 0, .int (-1), .ref (mm 6), .ref (mm 7), .ref (mm 8), .ref (mm 9), .ref (mm 10), .ref (mm 11), .ref (mm 12), .ref (mm 13), .int 0, .ref (mm 14), .ref (mm 15), .ref (mm 16), .ref (mm 17), .int 0, .int 0, .int 0, .ref (mm 18), .ref (mm 19), .int 0, .int 0, .ref (mm 20), .ref (mm 21), .ref (mm 22), .int 0, .int 0, .int 0, .int 0, .ref (mm 23), .ref (mm 24), .ref (mm 25), .int 0])), ((mm 6), .inl (E.2.2 0, 5, .inl (fun _ => 0)))] 84 11441
  refine mp_callV hF (As := [.int (xs 1)]) (rest := [.int (-2)]) (wr := []) (aX10_ring_122 E q2 (mm 6) (mm 1) (mm 2) (mm 3) (mm 4) (mm 5) (mm 7) (mm 8) (mm 9) (mm 10) (mm 11) (mm 12) (mm 13) (mm 14) (mm 15) (mm 16) (mm 17) (mm 18) (mm 19) (mm 20) (mm 21) (mm 22) (mm 23) (mm 24) (mm 25) (xs 1)) mp_lkL_170 0 rfl [0, 1] [] rfl rfl rfl rfl rfl ⟨(Nat.le_of_ble_eq_true rfl), (Nat.le_of_ble_eq_true rfl), (Nat.le_of_ble_eq_true rfl), (Nat.le_of_ble_eq_true rfl)⟩ (Nat.le_of_ble_eq_true rfl) (by decide +kernel) (fun v8 w9 h10 => ?_)
  obtain ⟨rfl, rfl⟩ := h10
  show mp_W E X 4 1358 [(3, .int 0), (2, .ref q2), (1, .ref q1), (0, .ref b)] [.int (-2), .int (-2)] [] 84 11441
  refine mp_run hF mp_tabL_ok [mp_h (.if_icmp .eq 861) [2219]] (by decide +kernel) ?_
  refine And.intro (fun _ => ?_) (fun c11 => absurd c11 (by decide))
  show mp_W E X 4 2219 [(3, .int 0), (2, .ref q2), (1, .ref q1), (0, .ref b)] [] [] 84 11441
  exact mp_sub [3, 0] rfl [] rfl rfl (mp_lw_next hL (Nat.le_of_ble_eq_true rfl) (Nat.le_of_ble_eq_true rfl))

set_option maxHeartbeats 4000000 in
set_option maxRecDepth 100000 in
theorem mp_case_38 {E : mp_E} {X : mp_X} {b : Nat} {xs : Nat → Int32} (hL : mp_Lw E X b 6 xs) (q1 q2 : Nat) (bb mm : Nat → Nat) (vs ln wd : Nat → Int32) (hln : ∀ j, j < 4 → ln j = -1) (hwd : ∀ j, j < 4 → wd j = -1) : mp_W E X 4 1363 [(3, .int 0), (2, .ref q2), (1, .ref q1), (0, .ref b)] [] (mp_w0 E q1 q2 bb mm vs ln wd) 84 11441 := by
  have hF : mp_F E X (RL, code, 4, (2048, 600000, 7302250, 84000), ret, false) := hL.1
  show mp_W E X 4 1363 [(3, .int 0), (2, .ref q2), (1, .ref q1), (0, .ref b)] [] (mp_w0 E q1 q2 bb mm vs ln wd) 84 11441
  refine mp_run hF mp_tabL_ok [mp_i (.aload_n 1), mp_i (.aload_n 0), mp_i (.iload_n 3), mp_c (.iconst 1) 1, mp_i .iadd] (by decide +kernel) ?_
  intro z1 h2
  obtain rfl : z1 = 1 := h2.trans (by decide)
  show mp_W E X 4 1368 [(3, .int 0), (2, .ref q2), (1, .ref q1), (0, .ref b)] [.int 1, .ref b, .ref q1] (mp_w0 E q1 q2 bb mm vs ln wd) 84 11441
  refine mp_lsld hL 1 (by decide) (by decide) (by decide) (by decide +kernel) ?_
  show mp_W E X 4 1369 [(3, .int 0), (2, .ref q2), (1, .ref q1), (0, .ref b)] [.int (xs 1), .ref q1] (mp_w0 E q1 q2 bb mm vs ln wd) 84 11441
  refine mp_run hF mp_tabL_ok [mp_i (.aload_n 0), mp_i (.iload_n 3), mp_c (.iconst 2) 2, mp_i .iadd] (by decide +kernel) ?_
  intro z3 h4
  obtain rfl : z3 = 2 := h4.trans (by decide)
  show mp_W E X 4 1373 [(3, .int 0), (2, .ref q2), (1, .ref q1), (0, .ref b)] [.int 2, .ref b, .int (xs 1), .ref q1] (mp_w0 E q1 q2 bb mm vs ln wd) 84 11441
  refine mp_lsld hL 2 (by decide) (by decide) (by decide) (by decide +kernel) ?_
  show mp_W E X 4 1374 [(3, .int 0), (2, .ref q2), (1, .ref q1), (0, .ref b)] [.int (xs 2), .int (xs 1), .ref q1] (mp_w0 E q1 q2 bb mm vs ln wd) 84 11441
  refine mp_callV hF (As := [.int (xs 1), .int (xs 2)]) (rest := []) (wr := [(q2, .inr (10, [.int 0, .ref (mm 1), .ref (mm 2), .ref (mm 3), .ref (mm 4), .ref (mm 5), .int 0, .int 0, .int 0, .int 0, .int 0, .long 0, .int 0, .int 0, .int 0, .int (-1), .ref (mm 6), .ref (mm 7), .ref (mm 8), .ref (mm 9), .ref (mm 10), .ref (mm 11), .ref (mm 12), .ref (mm 13), .int 0, .ref (mm 14), .ref (mm 15), .ref (mm 16), .ref (mm 17), .int 0, .int 0, .int 0, .ref (mm 18), .ref (mm 19), .int 0, .int 0, .ref (mm 20), .ref (mm 21), .ref (mm 22), .int 0, .int 0, .int 0, .int 0, .ref (mm 23), .ref (mm 24), .ref (mm 25), .int 0])), ((mm 6), .inl (E.2.2 0, 5, .inl (fun _ => 0)))]) (aX9_ringed_123 E q1 (bb 16) (bb 17) (bb 1) (bb 36) (bb 37) (bb 40) (bb 46) (bb 49) (bb 52) (bb 54) (bb 30) (bb 31) (bb 32) (bb 33) (bb 34) (bb 35) (bb 18) (bb 19) (bb 20) (bb 21) (bb 22) (bb 23) (bb 24) (bb 25) (bb 26) (bb 27) (bb 28) (bb 29) (xs 1) (xs 2)) mp_lkL_171 0 rfl [0, 16, 17] [58, 64] rfl rfl rfl rfl rfl ⟨(Nat.le_of_ble_eq_true rfl), (Nat.le_of_ble_eq_true rfl), (Nat.le_of_ble_eq_true rfl), (Nat.le_of_ble_eq_true rfl)⟩ (Nat.le_of_ble_eq_true rfl) (by decide +kernel) (fun v5 w6 h7 => ?_)
  obtain ⟨rfl, rfl⟩ := h7
  show mp_W E X 4 1377 [(3, .int 0), (2, .ref q2), (1, .ref q1), (0, .ref b)] [.int (-2)] [(q2, .inr (10, [.int 0, .ref (mm 1), .ref (mm 2), .ref (mm 3), .ref (mm 4), .ref (mm 5), .int 0, .int 0, .int 0, .int 0, .int 0, .long 0, .int 0, .int 0, .int 0, .int (-1), .ref (mm 6), .ref (mm 7), .ref (mm 8), .ref (mm 9), .ref (mm 10), .ref (mm 11), .ref (mm 12), .ref (mm 13), .int 0, .ref (mm 14), .ref (mm 15), .ref (mm 16), .ref (mm 17), .int 0, .int 0, .int 0, .ref (mm 18), .ref (mm 19), .int 0, .int 0, .ref (mm 20), .ref (mm 21), .ref (mm 22), .int 0, .int 0, .int 0, .int 0, .ref (mm 23), .ref (mm 24), .ref (mm 25), .int 0])), ((mm 6), .inl (E.2.2 0, 5, .inl (fun _ => 0)))] 84 11441
  refine mp_run hF mp_tabL_ok [mp_i (.aload_n 2), mp_i (.aload_n 0), mp_i (.iload_n 3), mp_c (.iconst 1) 1, mp_i .iadd] (by decide +kernel) ?_
  intro z8 h9
  obtain rfl : z8 = 1 := h9.trans (by decide)
  show mp_W E X 4 1382 [(3, .int 0), (2, .ref q2), (1, .ref q1), (0, .ref b)] [.int 1, .ref b, .ref q2, .int (-2)] [(q2, .inr (10, [.int 0, .ref (mm 1), .ref (mm 2), .ref (mm 3), .ref (mm 4), .ref (mm 5), .int 0, .int 0, .int 0, .int 0, .int 0, .long 0, .int 0, .int 0, .int 0, .int (-1), .ref (mm 6), .ref (mm 7), .ref (mm 8), .ref (mm 9), .ref (mm 10), .ref (mm 11), .ref (mm 12), .ref (mm 13), .int 0, .ref (mm 14), .ref (mm 15), .ref (mm 16), .ref (mm 17), .int 0, .int 0, .int 0, .ref (mm 18), .ref (mm 19), .int 0, .int 0, .ref (mm 20), .ref (mm 21), .ref (mm 22), .int 0, .int 0, .int 0, .int 0, .ref (mm 23), .ref (mm 24), .ref (mm 25), .int 0])), ((mm 6), .inl (E.2.2 0, 5, .inl (fun _ => 0)))] 84 11441
  refine mp_lsld hL 1 (by decide) (by decide) (by decide) (by decide +kernel) ?_
  show mp_W E X 4 1383 [(3, .int 0), (2, .ref q2), (1, .ref q1), (0, .ref b)] [.int (xs 1), .ref q2, .int (-2)] [(q2, .inr (10, [.int 0, .ref (mm 1), .ref (mm 2), .ref (mm 3), .ref (mm 4), .ref (mm 5), .int 0, .int 0, .int 0, .int 0, .int 0, .long 0, .int 0, .int 0, .int 0, .int (-1), .ref (mm 6), .ref (mm 7), .ref (mm 8), .ref (mm 9), .ref (mm 10), .ref (mm 11), .ref (mm 12), .ref (mm 13), .int 0, .ref (mm 14), .ref (mm 15), .ref (mm 16), .ref (mm 17), .int 0, .int 0, .int 0, .ref (mm 18), .ref (mm 19), .int 0, .int 0, .ref (mm 20), .ref (mm 21), .ref (mm 22), .int 0, .int 0, .int 0, .int 0, .ref (mm 23), .ref (mm 24), .ref (mm 25), .int 0])), ((mm 6), .inl (E.2.2 0, 5, .inl (fun _ => 0)))] 84 11441
  refine mp_run hF mp_tabL_ok [mp_i (.aload_n 0), mp_i (.iload_n 3), mp_c (.iconst 2) 2, mp_i .iadd] (by decide +kernel) ?_
  intro z10 h11
  obtain rfl : z10 = 2 := h11.trans (by decide)
  show mp_W E X 4 1387 [(3, .int 0), (2, .ref q2), (1, .ref q1), (0, .ref b)] [.int 2, .ref b, .int (xs 1), .ref q2, .int (-2)] [(q2, .inr (10, [.int 0, .ref (mm 1), .ref (mm 2), .ref (mm 3), .ref (mm 4), .ref (mm 5), .int 0, .int 0, .int 0, .int 0, .int 0, .long 0, .int 0, .int 0, .int 0, .int (-1), .ref (mm 6), .ref (mm 7), .ref (mm 8), .ref (mm 9), .ref (mm 10), .ref (mm 11), .ref (mm 12), .ref (mm 13), .int 0, .ref (mm 14), .ref (mm 15), .ref (mm 16), .ref (mm 17), .int 0, .int 0, .int 0, .ref (mm 18), .ref (mm 19), .int 0, .int 0, .ref (mm 20), .ref (mm 21), .ref (mm 22), .int 0, .int 0, .int 0, .int 0, .ref (mm 23), .ref (mm 24), .ref (mm 25), .int 0])), ((mm 6), .inl (E.2.2 0, 5, .inl (fun _ => 0)))] 84 11441
  refine mp_lsld hL 2 (by decide) (by decide) (by decide) (by decide +kernel) ?_
  show mp_W E X 4 1388 [(3, .int 0), (2, .ref q2), (1, .ref q1), (0, .ref b)] [.int (xs 2), .int (xs 1), .ref q2, .int (-2)] [(q2, .inr (10, [.int 0, .ref (mm 1), .ref (mm 2), .ref (mm 3), .ref (mm 4), .ref (mm 5), .int 0, .int 0, .int 0, .int 0, .int 0, .long 0, .int 0, .int 0, .int 0, .int (-1), .ref (mm 6), .ref (mm 7), .ref (mm 8), .ref (mm 9), .ref (mm 10), .ref (mm 11), .ref (mm 12), .ref (mm 13), .int 0, .ref (mm 14), .ref (mm 15), .ref (mm 16), .ref (mm 17), .int 0, .int 0, .int 0, .ref (mm 18), .ref (mm 19), .int 0, .int 0, .ref (mm 20), .ref (mm 21), .ref (mm 22), .int 0, .int 0, .int 0, .int 0, .ref (mm 23), .ref (mm 24), .ref (mm 25), .int 0])), ((mm 6), .inl (E.2.2 0, 5, .inl (fun _ => 0)))] 84 11441
  refine mp_callV hF (As := [.int (xs 1), .int (xs 2)]) (rest := [.int (-2)]) (wr := []) (aX10_ringed_124 E q2 (mm 6) (mm 1) (mm 2) (mm 3) (mm 4) (mm 5) (mm 7) (mm 8) (mm 9) (mm 10) (mm 11) (mm 12) (mm 13) (mm 14) (mm 15) (mm 16) (mm 17) (mm 18) (mm 19) (mm 20) (mm 21) (mm 22) (mm 23) (mm 24) (mm 25) (xs 1) (xs 2)) mp_lkL_174 0 rfl [0, 1] [] rfl rfl rfl rfl rfl ⟨(Nat.le_of_ble_eq_true rfl), (Nat.le_of_ble_eq_true rfl), (Nat.le_of_ble_eq_true rfl), (Nat.le_of_ble_eq_true rfl)⟩ (Nat.le_of_ble_eq_true rfl) (by decide +kernel) (fun v12 w13 h14 => ?_)
  obtain ⟨rfl, rfl⟩ := h14
  show mp_W E X 4 1391 [(3, .int 0), (2, .ref q2), (1, .ref q1), (0, .ref b)] [.int (-2), .int (-2)] [] 84 11441
  refine mp_run hF mp_tabL_ok [mp_h (.if_icmp .eq 828) [2219]] (by decide +kernel) ?_
  refine And.intro (fun _ => ?_) (fun c15 => absurd c15 (by decide))
  show mp_W E X 4 2219 [(3, .int 0), (2, .ref q2), (1, .ref q1), (0, .ref b)] [] [] 84 11441
  exact mp_sub [3, 0] rfl [] rfl rfl (mp_lw_next hL (Nat.le_of_ble_eq_true rfl) (Nat.le_of_ble_eq_true rfl))

set_option maxHeartbeats 4000000 in
set_option maxRecDepth 100000 in
theorem mp_case_39 {E : mp_E} {X : mp_X} {b : Nat} {xs : Nat → Int32} (hL : mp_Lw E X b 6 xs) (q1 q2 : Nat) (bb mm : Nat → Nat) (vs ln wd : Nat → Int32) (hln : ∀ j, j < 4 → ln j = -1) (hwd : ∀ j, j < 4 → wd j = -1) : mp_W E X 4 1396 [(3, .int 0), (2, .ref q2), (1, .ref q1), (0, .ref b)] [] (mp_w0 E q1 q2 bb mm vs ln wd) 84 11441 := by
  have hF : mp_F E X (RL, code, 4, (2048, 600000, 7302250, 84000), ret, false) := hL.1
  show mp_W E X 4 1396 [(3, .int 0), (2, .ref q2), (1, .ref q1), (0, .ref b)] [] (mp_w0 E q1 q2 bb mm vs ln wd) 84 11441
  refine mp_run hF mp_tabL_ok [mp_i (.aload_n 1), mp_i (.aload_n 0), mp_i (.iload_n 3), mp_c (.iconst 1) 1, mp_i .iadd] (by decide +kernel) ?_
  intro z1 h2
  obtain rfl : z1 = 1 := h2.trans (by decide)
  show mp_W E X 4 1401 [(3, .int 0), (2, .ref q2), (1, .ref q1), (0, .ref b)] [.int 1, .ref b, .ref q1] (mp_w0 E q1 q2 bb mm vs ln wd) 84 11441
  refine mp_lsld hL 1 (by decide) (by decide) (by decide) (by decide +kernel) ?_
  show mp_W E X 4 1402 [(3, .int 0), (2, .ref q2), (1, .ref q1), (0, .ref b)] [.int (xs 1), .ref q1] (mp_w0 E q1 q2 bb mm vs ln wd) 84 11441
  refine mp_run hF mp_tabL_ok [mp_i (.aload_n 0), mp_i (.iload_n 3), mp_c (.iconst 2) 2, mp_i .iadd] (by decide +kernel) ?_
  intro z3 h4
  obtain rfl : z3 = 2 := h4.trans (by decide)
  show mp_W E X 4 1406 [(3, .int 0), (2, .ref q2), (1, .ref q1), (0, .ref b)] [.int 2, .ref b, .int (xs 1), .ref q1] (mp_w0 E q1 q2 bb mm vs ln wd) 84 11441
  refine mp_lsld hL 2 (by decide) (by decide) (by decide) (by decide +kernel) ?_
  show mp_W E X 4 1407 [(3, .int 0), (2, .ref q2), (1, .ref q1), (0, .ref b)] [.int (xs 2), .int (xs 1), .ref q1] (mp_w0 E q1 q2 bb mm vs ln wd) 84 11441
  refine mp_run hF mp_tabL_ok [mp_i (.aload_n 0), mp_i (.iload_n 3), mp_c (.iconst 3) 3, mp_i .iadd] (by decide +kernel) ?_
  intro z5 h6
  obtain rfl : z5 = 3 := h6.trans (by decide)
  show mp_W E X 4 1411 [(3, .int 0), (2, .ref q2), (1, .ref q1), (0, .ref b)] [.int 3, .ref b, .int (xs 2), .int (xs 1), .ref q1] (mp_w0 E q1 q2 bb mm vs ln wd) 84 11441
  refine mp_lsld hL 3 (by decide) (by decide) (by decide) (by decide +kernel) ?_
  show mp_W E X 4 1412 [(3, .int 0), (2, .ref q2), (1, .ref q1), (0, .ref b)] [.int (xs 3), .int (xs 2), .int (xs 1), .ref q1] (mp_w0 E q1 q2 bb mm vs ln wd) 84 11441
  refine mp_run hF mp_tabL_ok [mp_i (.aload_n 0), mp_i (.iload_n 3), mp_c (.iconst 4) 4, mp_i .iadd] (by decide +kernel) ?_
  intro z7 h8
  obtain rfl : z7 = 4 := h8.trans (by decide)
  show mp_W E X 4 1416 [(3, .int 0), (2, .ref q2), (1, .ref q1), (0, .ref b)] [.int 4, .ref b, .int (xs 3), .int (xs 2), .int (xs 1), .ref q1] (mp_w0 E q1 q2 bb mm vs ln wd) 84 11441
  refine mp_lsld hL 4 (by decide) (by decide) (by decide) (by decide +kernel) ?_
  show mp_W E X 4 1417 [(3, .int 0), (2, .ref q2), (1, .ref q1), (0, .ref b)] [.int (xs 4), .int (xs 3), .int (xs 2), .int (xs 1), .ref q1] (mp_w0 E q1 q2 bb mm vs ln wd) 84 11441
  refine mp_callV hF (As := [.int (xs 1), .int (xs 2), .int (xs 3), .int (xs 4)]) (rest := []) (wr := [(q2, .inr (10, [.int 0, .ref (mm 1), .ref (mm 2), .ref (mm 3), .ref (mm 4), .ref (mm 5), .int 0, .int 0, .int 0, .int 0, .int 0, .long 0, .int 0, .int 0, .int 0, .int (-1), .ref (mm 6), .ref (mm 7), .ref (mm 8), .ref (mm 9), .ref (mm 10), .ref (mm 11), .ref (mm 12), .ref (mm 13), .int 0, .ref (mm 14), .ref (mm 15), .ref (mm 16), .ref (mm 17), .int 0, .int 0, .int 0, .ref (mm 18), .ref (mm 19), .int 0, .int 0, .ref (mm 20), .ref (mm 21), .ref (mm 22), .int 0, .int 0, .int 0, .int 0, .ref (mm 23), .ref (mm 24), .ref (mm 25), .int 0])), ((mm 7), .inl (E.2.2 0, 25, .inl (fun _ => 0)))]) (aX9_strikes_125 E q1 (bb 16) (bb 17) (bb 1) (bb 36) (bb 37) (bb 40) (bb 46) (bb 49) (bb 52) (bb 54) (bb 30) (bb 31) (bb 32) (bb 33) (bb 34) (bb 35) (bb 18) (bb 19) (bb 20) (bb 21) (bb 22) (bb 23) (bb 24) (bb 25) (bb 26) (bb 27) (bb 28) (bb 29) (xs 1) (xs 2) (xs 3) (xs 4)) mp_lkL_175 0 rfl [0, 16, 17] [58, 65] rfl rfl rfl rfl rfl ⟨(Nat.le_of_ble_eq_true rfl), (Nat.le_of_ble_eq_true rfl), (Nat.le_of_ble_eq_true rfl), (Nat.le_of_ble_eq_true rfl)⟩ (Nat.le_of_ble_eq_true rfl) (by decide +kernel) (fun v9 w10 h11 => ?_)
  obtain ⟨rfl, rfl⟩ := h11
  show mp_W E X 4 1420 [(3, .int 0), (2, .ref q2), (1, .ref q1), (0, .ref b)] [.int (-2)] [(q2, .inr (10, [.int 0, .ref (mm 1), .ref (mm 2), .ref (mm 3), .ref (mm 4), .ref (mm 5), .int 0, .int 0, .int 0, .int 0, .int 0, .long 0, .int 0, .int 0, .int 0, .int (-1), .ref (mm 6), .ref (mm 7), .ref (mm 8), .ref (mm 9), .ref (mm 10), .ref (mm 11), .ref (mm 12), .ref (mm 13), .int 0, .ref (mm 14), .ref (mm 15), .ref (mm 16), .ref (mm 17), .int 0, .int 0, .int 0, .ref (mm 18), .ref (mm 19), .int 0, .int 0, .ref (mm 20), .ref (mm 21), .ref (mm 22), .int 0, .int 0, .int 0, .int 0, .ref (mm 23), .ref (mm 24), .ref (mm 25), .int 0])), ((mm 7), .inl (E.2.2 0, 25, .inl (fun _ => 0)))] 84 11441
  refine mp_run hF mp_tabL_ok [mp_i (.aload_n 2), mp_i (.aload_n 0), mp_i (.iload_n 3), mp_c (.iconst 1) 1, mp_i .iadd] (by decide +kernel) ?_
  intro z12 h13
  obtain rfl : z12 = 1 := h13.trans (by decide)
  show mp_W E X 4 1425 [(3, .int 0), (2, .ref q2), (1, .ref q1), (0, .ref b)] [.int 1, .ref b, .ref q2, .int (-2)] [(q2, .inr (10, [.int 0, .ref (mm 1), .ref (mm 2), .ref (mm 3), .ref (mm 4), .ref (mm 5), .int 0, .int 0, .int 0, .int 0, .int 0, .long 0, .int 0, .int 0, .int 0, .int (-1), .ref (mm 6), .ref (mm 7), .ref (mm 8), .ref (mm 9), .ref (mm 10), .ref (mm 11), .ref (mm 12), .ref (mm 13), .int 0, .ref (mm 14), .ref (mm 15), .ref (mm 16), .ref (mm 17), .int 0, .int 0, .int 0, .ref (mm 18), .ref (mm 19), .int 0, .int 0, .ref (mm 20), .ref (mm 21), .ref (mm 22), .int 0, .int 0, .int 0, .int 0, .ref (mm 23), .ref (mm 24), .ref (mm 25), .int 0])), ((mm 7), .inl (E.2.2 0, 25, .inl (fun _ => 0)))] 84 11441
  refine mp_lsld hL 1 (by decide) (by decide) (by decide) (by decide +kernel) ?_
  show mp_W E X 4 1426 [(3, .int 0), (2, .ref q2), (1, .ref q1), (0, .ref b)] [.int (xs 1), .ref q2, .int (-2)] [(q2, .inr (10, [.int 0, .ref (mm 1), .ref (mm 2), .ref (mm 3), .ref (mm 4), .ref (mm 5), .int 0, .int 0, .int 0, .int 0, .int 0, .long 0, .int 0, .int 0, .int 0, .int (-1), .ref (mm 6), .ref (mm 7), .ref (mm 8), .ref (mm 9), .ref (mm 10), .ref (mm 11), .ref (mm 12), .ref (mm 13), .int 0, .ref (mm 14), .ref (mm 15), .ref (mm 16), .ref (mm 17), .int 0, .int 0, .int 0, .ref (mm 18), .ref (mm 19), .int 0, .int 0, .ref (mm 20), .ref (mm 21), .ref (mm 22), .int 0, .int 0, .int 0, .int 0, .ref (mm 23), .ref (mm 24), .ref (mm 25), .int 0])), ((mm 7), .inl (E.2.2 0, 25, .inl (fun _ => 0)))] 84 11441
  refine mp_run hF mp_tabL_ok [mp_i (.aload_n 0), mp_i (.iload_n 3), mp_c (.iconst 2) 2, mp_i .iadd] (by decide +kernel) ?_
  intro z14 h15
  obtain rfl : z14 = 2 := h15.trans (by decide)
  show mp_W E X 4 1430 [(3, .int 0), (2, .ref q2), (1, .ref q1), (0, .ref b)] [.int 2, .ref b, .int (xs 1), .ref q2, .int (-2)] [(q2, .inr (10, [.int 0, .ref (mm 1), .ref (mm 2), .ref (mm 3), .ref (mm 4), .ref (mm 5), .int 0, .int 0, .int 0, .int 0, .int 0, .long 0, .int 0, .int 0, .int 0, .int (-1), .ref (mm 6), .ref (mm 7), .ref (mm 8), .ref (mm 9), .ref (mm 10), .ref (mm 11), .ref (mm 12), .ref (mm 13), .int 0, .ref (mm 14), .ref (mm 15), .ref (mm 16), .ref (mm 17), .int 0, .int 0, .int 0, .ref (mm 18), .ref (mm 19), .int 0, .int 0, .ref (mm 20), .ref (mm 21), .ref (mm 22), .int 0, .int 0, .int 0, .int 0, .ref (mm 23), .ref (mm 24), .ref (mm 25), .int 0])), ((mm 7), .inl (E.2.2 0, 25, .inl (fun _ => 0)))] 84 11441
  refine mp_lsld hL 2 (by decide) (by decide) (by decide) (by decide +kernel) ?_
  show mp_W E X 4 1431 [(3, .int 0), (2, .ref q2), (1, .ref q1), (0, .ref b)] [.int (xs 2), .int (xs 1), .ref q2, .int (-2)] [(q2, .inr (10, [.int 0, .ref (mm 1), .ref (mm 2), .ref (mm 3), .ref (mm 4), .ref (mm 5), .int 0, .int 0, .int 0, .int 0, .int 0, .long 0, .int 0, .int 0, .int 0, .int (-1), .ref (mm 6), .ref (mm 7), .ref (mm 8), .ref (mm 9), .ref (mm 10), .ref (mm 11), .ref (mm 12), .ref (mm 13), .int 0, .ref (mm 14), .ref (mm 15), .ref (mm 16), .ref (mm 17), .int 0, .int 0, .int 0, .ref (mm 18), .ref (mm 19), .int 0, .int 0, .ref (mm 20), .ref (mm 21), .ref (mm 22), .int 0, .int 0, .int 0, .int 0, .ref (mm 23), .ref (mm 24), .ref (mm 25), .int 0])), ((mm 7), .inl (E.2.2 0, 25, .inl (fun _ => 0)))] 84 11441
  refine mp_run hF mp_tabL_ok [mp_i (.aload_n 0), mp_i (.iload_n 3), mp_c (.iconst 3) 3, mp_i .iadd] (by decide +kernel) ?_
  intro z16 h17
  obtain rfl : z16 = 3 := h17.trans (by decide)
  show mp_W E X 4 1435 [(3, .int 0), (2, .ref q2), (1, .ref q1), (0, .ref b)] [.int 3, .ref b, .int (xs 2), .int (xs 1), .ref q2, .int (-2)] [(q2, .inr (10, [.int 0, .ref (mm 1), .ref (mm 2), .ref (mm 3), .ref (mm 4), .ref (mm 5), .int 0, .int 0, .int 0, .int 0, .int 0, .long 0, .int 0, .int 0, .int 0, .int (-1), .ref (mm 6), .ref (mm 7), .ref (mm 8), .ref (mm 9), .ref (mm 10), .ref (mm 11), .ref (mm 12), .ref (mm 13), .int 0, .ref (mm 14), .ref (mm 15), .ref (mm 16), .ref (mm 17), .int 0, .int 0, .int 0, .ref (mm 18), .ref (mm 19), .int 0, .int 0, .ref (mm 20), .ref (mm 21), .ref (mm 22), .int 0, .int 0, .int 0, .int 0, .ref (mm 23), .ref (mm 24), .ref (mm 25), .int 0])), ((mm 7), .inl (E.2.2 0, 25, .inl (fun _ => 0)))] 84 11441
  refine mp_lsld hL 3 (by decide) (by decide) (by decide) (by decide +kernel) ?_
  show mp_W E X 4 1436 [(3, .int 0), (2, .ref q2), (1, .ref q1), (0, .ref b)] [.int (xs 3), .int (xs 2), .int (xs 1), .ref q2, .int (-2)] [(q2, .inr (10, [.int 0, .ref (mm 1), .ref (mm 2), .ref (mm 3), .ref (mm 4), .ref (mm 5), .int 0, .int 0, .int 0, .int 0, .int 0, .long 0, .int 0, .int 0, .int 0, .int (-1), .ref (mm 6), .ref (mm 7), .ref (mm 8), .ref (mm 9), .ref (mm 10), .ref (mm 11), .ref (mm 12), .ref (mm 13), .int 0, .ref (mm 14), .ref (mm 15), .ref (mm 16), .ref (mm 17), .int 0, .int 0, .int 0, .ref (mm 18), .ref (mm 19), .int 0, .int 0, .ref (mm 20), .ref (mm 21), .ref (mm 22), .int 0, .int 0, .int 0, .int 0, .ref (mm 23), .ref (mm 24), .ref (mm 25), .int 0])), ((mm 7), .inl (E.2.2 0, 25, .inl (fun _ => 0)))] 84 11441
  refine mp_run hF mp_tabL_ok [mp_i (.aload_n 0), mp_i (.iload_n 3), mp_c (.iconst 4) 4, mp_i .iadd] (by decide +kernel) ?_
  intro z18 h19
  obtain rfl : z18 = 4 := h19.trans (by decide)
  show mp_W E X 4 1440 [(3, .int 0), (2, .ref q2), (1, .ref q1), (0, .ref b)] [.int 4, .ref b, .int (xs 3), .int (xs 2), .int (xs 1), .ref q2, .int (-2)] [(q2, .inr (10, [.int 0, .ref (mm 1), .ref (mm 2), .ref (mm 3), .ref (mm 4), .ref (mm 5), .int 0, .int 0, .int 0, .int 0, .int 0, .long 0, .int 0, .int 0, .int 0, .int (-1), .ref (mm 6), .ref (mm 7), .ref (mm 8), .ref (mm 9), .ref (mm 10), .ref (mm 11), .ref (mm 12), .ref (mm 13), .int 0, .ref (mm 14), .ref (mm 15), .ref (mm 16), .ref (mm 17), .int 0, .int 0, .int 0, .ref (mm 18), .ref (mm 19), .int 0, .int 0, .ref (mm 20), .ref (mm 21), .ref (mm 22), .int 0, .int 0, .int 0, .int 0, .ref (mm 23), .ref (mm 24), .ref (mm 25), .int 0])), ((mm 7), .inl (E.2.2 0, 25, .inl (fun _ => 0)))] 84 11441
  refine mp_lsld hL 4 (by decide) (by decide) (by decide) (by decide +kernel) ?_
  show mp_W E X 4 1441 [(3, .int 0), (2, .ref q2), (1, .ref q1), (0, .ref b)] [.int (xs 4), .int (xs 3), .int (xs 2), .int (xs 1), .ref q2, .int (-2)] [(q2, .inr (10, [.int 0, .ref (mm 1), .ref (mm 2), .ref (mm 3), .ref (mm 4), .ref (mm 5), .int 0, .int 0, .int 0, .int 0, .int 0, .long 0, .int 0, .int 0, .int 0, .int (-1), .ref (mm 6), .ref (mm 7), .ref (mm 8), .ref (mm 9), .ref (mm 10), .ref (mm 11), .ref (mm 12), .ref (mm 13), .int 0, .ref (mm 14), .ref (mm 15), .ref (mm 16), .ref (mm 17), .int 0, .int 0, .int 0, .ref (mm 18), .ref (mm 19), .int 0, .int 0, .ref (mm 20), .ref (mm 21), .ref (mm 22), .int 0, .int 0, .int 0, .int 0, .ref (mm 23), .ref (mm 24), .ref (mm 25), .int 0])), ((mm 7), .inl (E.2.2 0, 25, .inl (fun _ => 0)))] 84 11441
  refine mp_callV hF (As := [.int (xs 1), .int (xs 2), .int (xs 3), .int (xs 4)]) (rest := [.int (-2)]) (wr := []) (aX10_strikes_126 E q2 (mm 7) (mm 1) (mm 2) (mm 3) (mm 4) (mm 5) (mm 6) (mm 8) (mm 9) (mm 10) (mm 11) (mm 12) (mm 13) (mm 14) (mm 15) (mm 16) (mm 17) (mm 18) (mm 19) (mm 20) (mm 21) (mm 22) (mm 23) (mm 24) (mm 25) (xs 1) (xs 2) (xs 3) (xs 4)) mp_lkL_179 0 rfl [0, 1] [] rfl rfl rfl rfl rfl ⟨(Nat.le_of_ble_eq_true rfl), (Nat.le_of_ble_eq_true rfl), (Nat.le_of_ble_eq_true rfl), (Nat.le_of_ble_eq_true rfl)⟩ (Nat.le_of_ble_eq_true rfl) (by decide +kernel) (fun v20 w21 h22 => ?_)
  obtain ⟨rfl, rfl⟩ := h22
  show mp_W E X 4 1444 [(3, .int 0), (2, .ref q2), (1, .ref q1), (0, .ref b)] [.int (-2), .int (-2)] [] 84 11441
  refine mp_run hF mp_tabL_ok [mp_h (.if_icmp .eq 775) [2219]] (by decide +kernel) ?_
  refine And.intro (fun _ => ?_) (fun c23 => absurd c23 (by decide))
  show mp_W E X 4 2219 [(3, .int 0), (2, .ref q2), (1, .ref q1), (0, .ref b)] [] [] 84 11441
  exact mp_sub [3, 0] rfl [] rfl rfl (mp_lw_next hL (Nat.le_of_ble_eq_true rfl) (Nat.le_of_ble_eq_true rfl))

set_option maxHeartbeats 4000000 in
set_option maxRecDepth 100000 in
theorem mp_case_40 {E : mp_E} {X : mp_X} {b : Nat} {xs : Nat → Int32} (hL : mp_Lw E X b 6 xs) (q1 q2 : Nat) (bb mm : Nat → Nat) (vs ln wd : Nat → Int32) (hln : ∀ j, j < 4 → ln j = -1) (hwd : ∀ j, j < 4 → wd j = -1) : mp_W E X 4 1449 [(3, .int 0), (2, .ref q2), (1, .ref q1), (0, .ref b)] [] (mp_w0 E q1 q2 bb mm vs ln wd) 84 11441 := by
  have hF : mp_F E X (RL, code, 4, (2048, 600000, 7302250, 84000), ret, false) := hL.1
  show mp_W E X 4 1449 [(3, .int 0), (2, .ref q2), (1, .ref q1), (0, .ref b)] [] (mp_w0 E q1 q2 bb mm vs ln wd) 84 11441
  refine mp_run hF mp_tabL_ok [mp_i (.aload_n 1), mp_i (.aload_n 0), mp_i (.iload_n 3), mp_c (.iconst 1) 1, mp_i .iadd] (by decide +kernel) ?_
  intro z1 h2
  obtain rfl : z1 = 1 := h2.trans (by decide)
  show mp_W E X 4 1454 [(3, .int 0), (2, .ref q2), (1, .ref q1), (0, .ref b)] [.int 1, .ref b, .ref q1] (mp_w0 E q1 q2 bb mm vs ln wd) 84 11441
  refine mp_lsld hL 1 (by decide) (by decide) (by decide) (by decide +kernel) ?_
  show mp_W E X 4 1455 [(3, .int 0), (2, .ref q2), (1, .ref q1), (0, .ref b)] [.int (xs 1), .ref q1] (mp_w0 E q1 q2 bb mm vs ln wd) 84 11441
  refine mp_run hF mp_tabL_ok [mp_i (.aload_n 0), mp_i (.iload_n 3), mp_c (.iconst 2) 2, mp_i .iadd] (by decide +kernel) ?_
  intro z3 h4
  obtain rfl : z3 = 2 := h4.trans (by decide)
  show mp_W E X 4 1459 [(3, .int 0), (2, .ref q2), (1, .ref q1), (0, .ref b)] [.int 2, .ref b, .int (xs 1), .ref q1] (mp_w0 E q1 q2 bb mm vs ln wd) 84 11441
  refine mp_lsld hL 2 (by decide) (by decide) (by decide) (by decide +kernel) ?_
  show mp_W E X 4 1460 [(3, .int 0), (2, .ref q2), (1, .ref q1), (0, .ref b)] [.int (xs 2), .int (xs 1), .ref q1] (mp_w0 E q1 q2 bb mm vs ln wd) 84 11441
  refine mp_callV hF (As := [.int (xs 1), .int (xs 2)]) (rest := []) (wr := [(q2, .inr (10, [.int 0, .ref (mm 1), .ref (mm 2), .ref (mm 3), .ref (mm 4), .ref (mm 5), .int 0, .int 0, .int 0, .int 0, .int 0, .long 0, .int 0, .int 0, .int 0, .int (-1), .ref (mm 6), .ref (mm 7), .ref (mm 8), .ref (mm 9), .ref (mm 10), .ref (mm 11), .ref (mm 12), .ref (mm 13), .int 0, .ref (mm 14), .ref (mm 15), .ref (mm 16), .ref (mm 17), .int 0, .int 0, .int 0, .ref (mm 18), .ref (mm 19), .int 0, .int 0, .ref (mm 20), .ref (mm 21), .ref (mm 22), .int 0, .int 0, .int 0, .int 0, .ref (mm 23), .ref (mm 24), .ref (mm 25), .int 0])), ((mm 7), .inl (E.2.2 0, 25, .inl (fun _ => 0)))]) (aX9_weighed_129 E q1 (bb 16) (bb 17) (bb 54) (bb 1) (bb 36) (bb 37) (bb 40) (bb 46) (bb 49) (bb 52) (bb 30) (bb 31) (bb 32) (bb 33) (bb 34) (bb 35) (bb 18) (bb 19) (bb 20) (bb 21) (bb 22) (bb 23) (bb 24) (bb 25) (bb 26) (bb 27) (bb 28) (bb 29) (bb 55) (bb 56) (bb 57) (xs 1) (xs 2)) mp_lkL_180 0 rfl [0, 16, 17, 54] [58, 65] rfl rfl rfl rfl rfl ⟨(Nat.le_of_ble_eq_true rfl), (Nat.le_of_ble_eq_true rfl), (Nat.le_of_ble_eq_true rfl), (Nat.le_of_ble_eq_true rfl)⟩ (Nat.le_of_ble_eq_true rfl) (by decide +kernel) (fun v5 w6 h7 => ?_)
  obtain ⟨rfl, rfl⟩ := h7
  show mp_W E X 4 1463 [(3, .int 0), (2, .ref q2), (1, .ref q1), (0, .ref b)] [.int (-2)] [(q2, .inr (10, [.int 0, .ref (mm 1), .ref (mm 2), .ref (mm 3), .ref (mm 4), .ref (mm 5), .int 0, .int 0, .int 0, .int 0, .int 0, .long 0, .int 0, .int 0, .int 0, .int (-1), .ref (mm 6), .ref (mm 7), .ref (mm 8), .ref (mm 9), .ref (mm 10), .ref (mm 11), .ref (mm 12), .ref (mm 13), .int 0, .ref (mm 14), .ref (mm 15), .ref (mm 16), .ref (mm 17), .int 0, .int 0, .int 0, .ref (mm 18), .ref (mm 19), .int 0, .int 0, .ref (mm 20), .ref (mm 21), .ref (mm 22), .int 0, .int 0, .int 0, .int 0, .ref (mm 23), .ref (mm 24), .ref (mm 25), .int 0])), ((mm 7), .inl (E.2.2 0, 25, .inl (fun _ => 0)))] 84 11441
  refine mp_run hF mp_tabL_ok [mp_i (.aload_n 2), mp_i (.aload_n 0), mp_i (.iload_n 3), mp_c (.iconst 1) 1, mp_i .iadd] (by decide +kernel) ?_
  intro z8 h9
  obtain rfl : z8 = 1 := h9.trans (by decide)
  show mp_W E X 4 1468 [(3, .int 0), (2, .ref q2), (1, .ref q1), (0, .ref b)] [.int 1, .ref b, .ref q2, .int (-2)] [(q2, .inr (10, [.int 0, .ref (mm 1), .ref (mm 2), .ref (mm 3), .ref (mm 4), .ref (mm 5), .int 0, .int 0, .int 0, .int 0, .int 0, .long 0, .int 0, .int 0, .int 0, .int (-1), .ref (mm 6), .ref (mm 7), .ref (mm 8), .ref (mm 9), .ref (mm 10), .ref (mm 11), .ref (mm 12), .ref (mm 13), .int 0, .ref (mm 14), .ref (mm 15), .ref (mm 16), .ref (mm 17), .int 0, .int 0, .int 0, .ref (mm 18), .ref (mm 19), .int 0, .int 0, .ref (mm 20), .ref (mm 21), .ref (mm 22), .int 0, .int 0, .int 0, .int 0, .ref (mm 23), .ref (mm 24), .ref (mm 25), .int 0])), ((mm 7), .inl (E.2.2 0, 25, .inl (fun _ => 0)))] 84 11441
  refine mp_lsld hL 1 (by decide) (by decide) (by decide) (by decide +kernel) ?_
  show mp_W E X 4 1469 [(3, .int 0), (2, .ref q2), (1, .ref q1), (0, .ref b)] [.int (xs 1), .ref q2, .int (-2)] [(q2, .inr (10, [.int 0, .ref (mm 1), .ref (mm 2), .ref (mm 3), .ref (mm 4), .ref (mm 5), .int 0, .int 0, .int 0, .int 0, .int 0, .long 0, .int 0, .int 0, .int 0, .int (-1), .ref (mm 6), .ref (mm 7), .ref (mm 8), .ref (mm 9), .ref (mm 10), .ref (mm 11), .ref (mm 12), .ref (mm 13), .int 0, .ref (mm 14), .ref (mm 15), .ref (mm 16), .ref (mm 17), .int 0, .int 0, .int 0, .ref (mm 18), .ref (mm 19), .int 0, .int 0, .ref (mm 20), .ref (mm 21), .ref (mm 22), .int 0, .int 0, .int 0, .int 0, .ref (mm 23), .ref (mm 24), .ref (mm 25), .int 0])), ((mm 7), .inl (E.2.2 0, 25, .inl (fun _ => 0)))] 84 11441
  refine mp_run hF mp_tabL_ok [mp_i (.aload_n 0), mp_i (.iload_n 3), mp_c (.iconst 2) 2, mp_i .iadd] (by decide +kernel) ?_
  intro z10 h11
  obtain rfl : z10 = 2 := h11.trans (by decide)
  show mp_W E X 4 1473 [(3, .int 0), (2, .ref q2), (1, .ref q1), (0, .ref b)] [.int 2, .ref b, .int (xs 1), .ref q2, .int (-2)] [(q2, .inr (10, [.int 0, .ref (mm 1), .ref (mm 2), .ref (mm 3), .ref (mm 4), .ref (mm 5), .int 0, .int 0, .int 0, .int 0, .int 0, .long 0, .int 0, .int 0, .int 0, .int (-1), .ref (mm 6), .ref (mm 7), .ref (mm 8), .ref (mm 9), .ref (mm 10), .ref (mm 11), .ref (mm 12), .ref (mm 13), .int 0, .ref (mm 14), .ref (mm 15), .ref (mm 16), .ref (mm 17), .int 0, .int 0, .int 0, .ref (mm 18), .ref (mm 19), .int 0, .int 0, .ref (mm 20), .ref (mm 21), .ref (mm 22), .int 0, .int 0, .int 0, .int 0, .ref (mm 23), .ref (mm 24), .ref (mm 25), .int 0])), ((mm 7), .inl (E.2.2 0, 25, .inl (fun _ => 0)))] 84 11441
  refine mp_lsld hL 2 (by decide) (by decide) (by decide) (by decide +kernel) ?_
  show mp_W E X 4 1474 [(3, .int 0), (2, .ref q2), (1, .ref q1), (0, .ref b)] [.int (xs 2), .int (xs 1), .ref q2, .int (-2)] [(q2, .inr (10, [.int 0, .ref (mm 1), .ref (mm 2), .ref (mm 3), .ref (mm 4), .ref (mm 5), .int 0, .int 0, .int 0, .int 0, .int 0, .long 0, .int 0, .int 0, .int 0, .int (-1), .ref (mm 6), .ref (mm 7), .ref (mm 8), .ref (mm 9), .ref (mm 10), .ref (mm 11), .ref (mm 12), .ref (mm 13), .int 0, .ref (mm 14), .ref (mm 15), .ref (mm 16), .ref (mm 17), .int 0, .int 0, .int 0, .ref (mm 18), .ref (mm 19), .int 0, .int 0, .ref (mm 20), .ref (mm 21), .ref (mm 22), .int 0, .int 0, .int 0, .int 0, .ref (mm 23), .ref (mm 24), .ref (mm 25), .int 0])), ((mm 7), .inl (E.2.2 0, 25, .inl (fun _ => 0)))] 84 11441
  refine mp_callV hF (As := [.int (xs 1), .int (xs 2)]) (rest := [.int (-2)]) (wr := []) (aX10_weighed_133 E q2 (mm 7) (mm 1) (mm 2) (mm 3) (mm 4) (mm 5) (mm 6) (mm 8) (mm 9) (mm 10) (mm 11) (mm 12) (mm 13) (mm 14) (mm 15) (mm 16) (mm 17) (mm 18) (mm 19) (mm 20) (mm 21) (mm 22) (mm 23) (mm 24) (mm 25) (xs 1) (xs 2)) mp_lkL_183 0 rfl [0, 1] [] rfl rfl rfl rfl rfl ⟨(Nat.le_of_ble_eq_true rfl), (Nat.le_of_ble_eq_true rfl), (Nat.le_of_ble_eq_true rfl), (Nat.le_of_ble_eq_true rfl)⟩ (Nat.le_of_ble_eq_true rfl) (by decide +kernel) (fun v12 w13 h14 => ?_)
  obtain ⟨rfl, rfl⟩ := h14
  show mp_W E X 4 1477 [(3, .int 0), (2, .ref q2), (1, .ref q1), (0, .ref b)] [.int (-2), .int (-2)] [] 84 11441
  refine mp_run hF mp_tabL_ok [mp_h (.if_icmp .eq 742) [2219]] (by decide +kernel) ?_
  refine And.intro (fun _ => ?_) (fun c15 => absurd c15 (by decide))
  show mp_W E X 4 2219 [(3, .int 0), (2, .ref q2), (1, .ref q1), (0, .ref b)] [] [] 84 11441
  exact mp_sub [3, 0] rfl [] rfl rfl (mp_lw_next hL (Nat.le_of_ble_eq_true rfl) (Nat.le_of_ble_eq_true rfl))

set_option maxHeartbeats 4000000 in
set_option maxRecDepth 100000 in
theorem mp_case_41 {E : mp_E} {X : mp_X} {b : Nat} {xs : Nat → Int32} (hL : mp_Lw E X b 6 xs) (q1 q2 : Nat) (bb mm : Nat → Nat) (vs ln wd : Nat → Int32) (hln : ∀ j, j < 4 → ln j = -1) (hwd : ∀ j, j < 4 → wd j = -1) : mp_W E X 4 1482 [(3, .int 0), (2, .ref q2), (1, .ref q1), (0, .ref b)] [] (mp_w0 E q1 q2 bb mm vs ln wd) 84 11441 := by
  have hF : mp_F E X (RL, code, 4, (2048, 600000, 7302250, 84000), ret, false) := hL.1
  show mp_W E X 4 1482 [(3, .int 0), (2, .ref q2), (1, .ref q1), (0, .ref b)] [] (mp_w0 E q1 q2 bb mm vs ln wd) 84 11441
  refine mp_run hF mp_tabL_ok [mp_i (.aload_n 1), mp_i (.aload_n 0), mp_i (.iload_n 3), mp_c (.iconst 1) 1, mp_i .iadd] (by decide +kernel) ?_
  intro z1 h2
  obtain rfl : z1 = 1 := h2.trans (by decide)
  show mp_W E X 4 1487 [(3, .int 0), (2, .ref q2), (1, .ref q1), (0, .ref b)] [.int 1, .ref b, .ref q1] (mp_w0 E q1 q2 bb mm vs ln wd) 84 11441
  refine mp_lsld hL 1 (by decide) (by decide) (by decide) (by decide +kernel) ?_
  show mp_W E X 4 1488 [(3, .int 0), (2, .ref q2), (1, .ref q1), (0, .ref b)] [.int (xs 1), .ref q1] (mp_w0 E q1 q2 bb mm vs ln wd) 84 11441
  refine mp_run hF mp_tabL_ok [mp_i (.aload_n 0), mp_i (.iload_n 3), mp_c (.iconst 2) 2, mp_i .iadd] (by decide +kernel) ?_
  intro z3 h4
  obtain rfl : z3 = 2 := h4.trans (by decide)
  show mp_W E X 4 1492 [(3, .int 0), (2, .ref q2), (1, .ref q1), (0, .ref b)] [.int 2, .ref b, .int (xs 1), .ref q1] (mp_w0 E q1 q2 bb mm vs ln wd) 84 11441
  refine mp_lsld hL 2 (by decide) (by decide) (by decide) (by decide +kernel) ?_
  show mp_W E X 4 1493 [(3, .int 0), (2, .ref q2), (1, .ref q1), (0, .ref b)] [.int (xs 2), .int (xs 1), .ref q1] (mp_w0 E q1 q2 bb mm vs ln wd) 84 11441
  refine mp_run hF mp_tabL_ok [mp_i (.aload_n 0), mp_i (.iload_n 3), mp_c (.iconst 3) 3, mp_i .iadd] (by decide +kernel) ?_
  intro z5 h6
  obtain rfl : z5 = 3 := h6.trans (by decide)
  show mp_W E X 4 1497 [(3, .int 0), (2, .ref q2), (1, .ref q1), (0, .ref b)] [.int 3, .ref b, .int (xs 2), .int (xs 1), .ref q1] (mp_w0 E q1 q2 bb mm vs ln wd) 84 11441
  refine mp_lsld hL 3 (by decide) (by decide) (by decide) (by decide +kernel) ?_
  show mp_W E X 4 1498 [(3, .int 0), (2, .ref q2), (1, .ref q1), (0, .ref b)] [.int (xs 3), .int (xs 2), .int (xs 1), .ref q1] (mp_w0 E q1 q2 bb mm vs ln wd) 84 11441
  refine mp_callV hF (As := [.int (xs 1), .int (xs 2), .int (xs 3)]) (rest := []) (wr := [(q2, .inr (10, [.int 0, .ref (mm 1), .ref (mm 2), .ref (mm 3), .ref (mm 4), .ref (mm 5), .int 0, .int 0, .int 0, .int 0, .int 0, .long 0, .int 0, .int 0, .int 0, .int (-1), .ref (mm 6), .ref (mm 7), .ref (mm 8), .ref (mm 9), .ref (mm 10), .ref (mm 11), .ref (mm 12), .ref (mm 13), .int 0, .ref (mm 14), .ref (mm 15), .ref (mm 16), .ref (mm 17), .int 0, .int 0, .int 0, .ref (mm 18), .ref (mm 19), .int 0, .int 0, .ref (mm 20), .ref (mm 21), .ref (mm 22), .int 0, .int 0, .int 0, .int 0, .ref (mm 23), .ref (mm 24), .ref (mm 25), .int 0])), ((mm 7), .inl (E.2.2 0, 25, .inl (fun _ => 0)))]) (aX9_must_134 E q1 (bb 16) (bb 17) (bb 54) (bb 1) (bb 36) (bb 37) (bb 40) (bb 46) (bb 49) (bb 52) (bb 30) (bb 31) (bb 32) (bb 33) (bb 34) (bb 35) (bb 18) (bb 19) (bb 20) (bb 21) (bb 22) (bb 23) (bb 24) (bb 25) (bb 26) (bb 27) (bb 28) (bb 29) (bb 55) (bb 56) (bb 57) (xs 1) (xs 2) (xs 3)) mp_lkL_184 0 rfl [0, 16, 17, 54] [58, 65] rfl rfl rfl rfl rfl ⟨(Nat.le_of_ble_eq_true rfl), (Nat.le_of_ble_eq_true rfl), (Nat.le_of_ble_eq_true rfl), (Nat.le_of_ble_eq_true rfl)⟩ (Nat.le_of_ble_eq_true rfl) (by decide +kernel) (fun v7 w8 h9 => ?_)
  obtain ⟨rfl, rfl⟩ := h9
  show mp_W E X 4 1501 [(3, .int 0), (2, .ref q2), (1, .ref q1), (0, .ref b)] [.int (-2)] [(q2, .inr (10, [.int 0, .ref (mm 1), .ref (mm 2), .ref (mm 3), .ref (mm 4), .ref (mm 5), .int 0, .int 0, .int 0, .int 0, .int 0, .long 0, .int 0, .int 0, .int 0, .int (-1), .ref (mm 6), .ref (mm 7), .ref (mm 8), .ref (mm 9), .ref (mm 10), .ref (mm 11), .ref (mm 12), .ref (mm 13), .int 0, .ref (mm 14), .ref (mm 15), .ref (mm 16), .ref (mm 17), .int 0, .int 0, .int 0, .ref (mm 18), .ref (mm 19), .int 0, .int 0, .ref (mm 20), .ref (mm 21), .ref (mm 22), .int 0, .int 0, .int 0, .int 0, .ref (mm 23), .ref (mm 24), .ref (mm 25), .int 0])), ((mm 7), .inl (E.2.2 0, 25, .inl (fun _ => 0)))] 84 11441
  refine mp_run hF mp_tabL_ok [mp_i (.aload_n 2), mp_i (.aload_n 0), mp_i (.iload_n 3), mp_c (.iconst 1) 1, mp_i .iadd] (by decide +kernel) ?_
  intro z10 h11
  obtain rfl : z10 = 1 := h11.trans (by decide)
  show mp_W E X 4 1506 [(3, .int 0), (2, .ref q2), (1, .ref q1), (0, .ref b)] [.int 1, .ref b, .ref q2, .int (-2)] [(q2, .inr (10, [.int 0, .ref (mm 1), .ref (mm 2), .ref (mm 3), .ref (mm 4), .ref (mm 5), .int 0, .int 0, .int 0, .int 0, .int 0, .long 0, .int 0, .int 0, .int 0, .int (-1), .ref (mm 6), .ref (mm 7), .ref (mm 8), .ref (mm 9), .ref (mm 10), .ref (mm 11), .ref (mm 12), .ref (mm 13), .int 0, .ref (mm 14), .ref (mm 15), .ref (mm 16), .ref (mm 17), .int 0, .int 0, .int 0, .ref (mm 18), .ref (mm 19), .int 0, .int 0, .ref (mm 20), .ref (mm 21), .ref (mm 22), .int 0, .int 0, .int 0, .int 0, .ref (mm 23), .ref (mm 24), .ref (mm 25), .int 0])), ((mm 7), .inl (E.2.2 0, 25, .inl (fun _ => 0)))] 84 11441
  refine mp_lsld hL 1 (by decide) (by decide) (by decide) (by decide +kernel) ?_
  show mp_W E X 4 1507 [(3, .int 0), (2, .ref q2), (1, .ref q1), (0, .ref b)] [.int (xs 1), .ref q2, .int (-2)] [(q2, .inr (10, [.int 0, .ref (mm 1), .ref (mm 2), .ref (mm 3), .ref (mm 4), .ref (mm 5), .int 0, .int 0, .int 0, .int 0, .int 0, .long 0, .int 0, .int 0, .int 0, .int (-1), .ref (mm 6), .ref (mm 7), .ref (mm 8), .ref (mm 9), .ref (mm 10), .ref (mm 11), .ref (mm 12), .ref (mm 13), .int 0, .ref (mm 14), .ref (mm 15), .ref (mm 16), .ref (mm 17), .int 0, .int 0, .int 0, .ref (mm 18), .ref (mm 19), .int 0, .int 0, .ref (mm 20), .ref (mm 21), .ref (mm 22), .int 0, .int 0, .int 0, .int 0, .ref (mm 23), .ref (mm 24), .ref (mm 25), .int 0])), ((mm 7), .inl (E.2.2 0, 25, .inl (fun _ => 0)))] 84 11441
  refine mp_run hF mp_tabL_ok [mp_i (.aload_n 0), mp_i (.iload_n 3), mp_c (.iconst 2) 2, mp_i .iadd] (by decide +kernel) ?_
  intro z12 h13
  obtain rfl : z12 = 2 := h13.trans (by decide)
  show mp_W E X 4 1511 [(3, .int 0), (2, .ref q2), (1, .ref q1), (0, .ref b)] [.int 2, .ref b, .int (xs 1), .ref q2, .int (-2)] [(q2, .inr (10, [.int 0, .ref (mm 1), .ref (mm 2), .ref (mm 3), .ref (mm 4), .ref (mm 5), .int 0, .int 0, .int 0, .int 0, .int 0, .long 0, .int 0, .int 0, .int 0, .int (-1), .ref (mm 6), .ref (mm 7), .ref (mm 8), .ref (mm 9), .ref (mm 10), .ref (mm 11), .ref (mm 12), .ref (mm 13), .int 0, .ref (mm 14), .ref (mm 15), .ref (mm 16), .ref (mm 17), .int 0, .int 0, .int 0, .ref (mm 18), .ref (mm 19), .int 0, .int 0, .ref (mm 20), .ref (mm 21), .ref (mm 22), .int 0, .int 0, .int 0, .int 0, .ref (mm 23), .ref (mm 24), .ref (mm 25), .int 0])), ((mm 7), .inl (E.2.2 0, 25, .inl (fun _ => 0)))] 84 11441
  refine mp_lsld hL 2 (by decide) (by decide) (by decide) (by decide +kernel) ?_
  show mp_W E X 4 1512 [(3, .int 0), (2, .ref q2), (1, .ref q1), (0, .ref b)] [.int (xs 2), .int (xs 1), .ref q2, .int (-2)] [(q2, .inr (10, [.int 0, .ref (mm 1), .ref (mm 2), .ref (mm 3), .ref (mm 4), .ref (mm 5), .int 0, .int 0, .int 0, .int 0, .int 0, .long 0, .int 0, .int 0, .int 0, .int (-1), .ref (mm 6), .ref (mm 7), .ref (mm 8), .ref (mm 9), .ref (mm 10), .ref (mm 11), .ref (mm 12), .ref (mm 13), .int 0, .ref (mm 14), .ref (mm 15), .ref (mm 16), .ref (mm 17), .int 0, .int 0, .int 0, .ref (mm 18), .ref (mm 19), .int 0, .int 0, .ref (mm 20), .ref (mm 21), .ref (mm 22), .int 0, .int 0, .int 0, .int 0, .ref (mm 23), .ref (mm 24), .ref (mm 25), .int 0])), ((mm 7), .inl (E.2.2 0, 25, .inl (fun _ => 0)))] 84 11441
  refine mp_run hF mp_tabL_ok [mp_i (.aload_n 0), mp_i (.iload_n 3), mp_c (.iconst 3) 3, mp_i .iadd] (by decide +kernel) ?_
  intro z14 h15
  obtain rfl : z14 = 3 := h15.trans (by decide)
  show mp_W E X 4 1516 [(3, .int 0), (2, .ref q2), (1, .ref q1), (0, .ref b)] [.int 3, .ref b, .int (xs 2), .int (xs 1), .ref q2, .int (-2)] [(q2, .inr (10, [.int 0, .ref (mm 1), .ref (mm 2), .ref (mm 3), .ref (mm 4), .ref (mm 5), .int 0, .int 0, .int 0, .int 0, .int 0, .long 0, .int 0, .int 0, .int 0, .int (-1), .ref (mm 6), .ref (mm 7), .ref (mm 8), .ref (mm 9), .ref (mm 10), .ref (mm 11), .ref (mm 12), .ref (mm 13), .int 0, .ref (mm 14), .ref (mm 15), .ref (mm 16), .ref (mm 17), .int 0, .int 0, .int 0, .ref (mm 18), .ref (mm 19), .int 0, .int 0, .ref (mm 20), .ref (mm 21), .ref (mm 22), .int 0, .int 0, .int 0, .int 0, .ref (mm 23), .ref (mm 24), .ref (mm 25), .int 0])), ((mm 7), .inl (E.2.2 0, 25, .inl (fun _ => 0)))] 84 11441
  refine mp_lsld hL 3 (by decide) (by decide) (by decide) (by decide +kernel) ?_
  show mp_W E X 4 1517 [(3, .int 0), (2, .ref q2), (1, .ref q1), (0, .ref b)] [.int (xs 3), .int (xs 2), .int (xs 1), .ref q2, .int (-2)] [(q2, .inr (10, [.int 0, .ref (mm 1), .ref (mm 2), .ref (mm 3), .ref (mm 4), .ref (mm 5), .int 0, .int 0, .int 0, .int 0, .int 0, .long 0, .int 0, .int 0, .int 0, .int (-1), .ref (mm 6), .ref (mm 7), .ref (mm 8), .ref (mm 9), .ref (mm 10), .ref (mm 11), .ref (mm 12), .ref (mm 13), .int 0, .ref (mm 14), .ref (mm 15), .ref (mm 16), .ref (mm 17), .int 0, .int 0, .int 0, .ref (mm 18), .ref (mm 19), .int 0, .int 0, .ref (mm 20), .ref (mm 21), .ref (mm 22), .int 0, .int 0, .int 0, .int 0, .ref (mm 23), .ref (mm 24), .ref (mm 25), .int 0])), ((mm 7), .inl (E.2.2 0, 25, .inl (fun _ => 0)))] 84 11441
  refine mp_callV hF (As := [.int (xs 1), .int (xs 2), .int (xs 3)]) (rest := [.int (-2)]) (wr := []) (aX10_must_136 E q2 (mm 7) (mm 1) (mm 2) (mm 3) (mm 4) (mm 5) (mm 6) (mm 8) (mm 9) (mm 10) (mm 11) (mm 12) (mm 13) (mm 14) (mm 15) (mm 16) (mm 17) (mm 18) (mm 19) (mm 20) (mm 21) (mm 22) (mm 23) (mm 24) (mm 25) (xs 1) (xs 2) (xs 3)) mp_lkL_187 0 rfl [0, 1] [] rfl rfl rfl rfl rfl ⟨(Nat.le_of_ble_eq_true rfl), (Nat.le_of_ble_eq_true rfl), (Nat.le_of_ble_eq_true rfl), (Nat.le_of_ble_eq_true rfl)⟩ (Nat.le_of_ble_eq_true rfl) (by decide +kernel) (fun v16 w17 h18 => ?_)
  obtain ⟨rfl, rfl⟩ := h18
  show mp_W E X 4 1520 [(3, .int 0), (2, .ref q2), (1, .ref q1), (0, .ref b)] [.int (-2), .int (-2)] [] 84 11441
  refine mp_run hF mp_tabL_ok [mp_h (.if_icmp .eq 699) [2219]] (by decide +kernel) ?_
  refine And.intro (fun _ => ?_) (fun c19 => absurd c19 (by decide))
  show mp_W E X 4 2219 [(3, .int 0), (2, .ref q2), (1, .ref q1), (0, .ref b)] [] [] 84 11441
  exact mp_sub [3, 0] rfl [] rfl rfl (mp_lw_next hL (Nat.le_of_ble_eq_true rfl) (Nat.le_of_ble_eq_true rfl))

set_option maxHeartbeats 4000000 in
set_option maxRecDepth 100000 in
theorem mp_case_42 {E : mp_E} {X : mp_X} {b : Nat} {xs : Nat → Int32} (hL : mp_Lw E X b 6 xs) (q1 q2 : Nat) (bb mm : Nat → Nat) (vs ln wd : Nat → Int32) (hln : ∀ j, j < 4 → ln j = -1) (hwd : ∀ j, j < 4 → wd j = -1) : mp_W E X 4 1525 [(3, .int 0), (2, .ref q2), (1, .ref q1), (0, .ref b)] [] (mp_w0 E q1 q2 bb mm vs ln wd) 84 11441 := by
  have hF : mp_F E X (RL, code, 4, (2048, 600000, 7302250, 84000), ret, false) := hL.1
  show mp_W E X 4 1525 [(3, .int 0), (2, .ref q2), (1, .ref q1), (0, .ref b)] [] (mp_w0 E q1 q2 bb mm vs ln wd) 84 11441
  refine mp_run hF mp_tabL_ok [mp_i (.aload_n 1), mp_i (.aload_n 0), mp_i (.iload_n 3), mp_c (.iconst 1) 1, mp_i .iadd] (by decide +kernel) ?_
  intro z1 h2
  obtain rfl : z1 = 1 := h2.trans (by decide)
  show mp_W E X 4 1530 [(3, .int 0), (2, .ref q2), (1, .ref q1), (0, .ref b)] [.int 1, .ref b, .ref q1] (mp_w0 E q1 q2 bb mm vs ln wd) 84 11441
  refine mp_lsld hL 1 (by decide) (by decide) (by decide) (by decide +kernel) ?_
  show mp_W E X 4 1531 [(3, .int 0), (2, .ref q2), (1, .ref q1), (0, .ref b)] [.int (xs 1), .ref q1] (mp_w0 E q1 q2 bb mm vs ln wd) 84 11441
  refine mp_run hF mp_tabL_ok [mp_i (.aload_n 0), mp_i (.iload_n 3), mp_c (.iconst 2) 2, mp_i .iadd] (by decide +kernel) ?_
  intro z3 h4
  obtain rfl : z3 = 2 := h4.trans (by decide)
  show mp_W E X 4 1535 [(3, .int 0), (2, .ref q2), (1, .ref q1), (0, .ref b)] [.int 2, .ref b, .int (xs 1), .ref q1] (mp_w0 E q1 q2 bb mm vs ln wd) 84 11441
  refine mp_lsld hL 2 (by decide) (by decide) (by decide) (by decide +kernel) ?_
  show mp_W E X 4 1536 [(3, .int 0), (2, .ref q2), (1, .ref q1), (0, .ref b)] [.int (xs 2), .int (xs 1), .ref q1] (mp_w0 E q1 q2 bb mm vs ln wd) 84 11441
  refine mp_callV hF (As := [.int (xs 1), .int (xs 2)]) (rest := []) (wr := [(q2, .inr (10, [.int 0, .ref (mm 1), .ref (mm 2), .ref (mm 3), .ref (mm 4), .ref (mm 5), .int 0, .int 0, .int 0, .int 0, .int 0, .long 0, .int 0, .int 0, .int 0, .int (-1), .ref (mm 6), .ref (mm 7), .ref (mm 8), .ref (mm 9), .ref (mm 10), .ref (mm 11), .ref (mm 12), .ref (mm 13), .int 0, .ref (mm 14), .ref (mm 15), .ref (mm 16), .ref (mm 17), .int 0, .int 0, .int 0, .ref (mm 18), .ref (mm 19), .int 0, .int 0, .ref (mm 20), .ref (mm 21), .ref (mm 22), .int 0, .int 0, .int 0, .int 0, .ref (mm 23), .ref (mm 24), .ref (mm 25), .int 0])), ((mm 7), .inl (E.2.2 0, 25, .inl (fun _ => 0)))]) (aX9_times_137 E q1 (bb 16) (bb 17) (bb 54) (bb 1) (bb 36) (bb 37) (bb 40) (bb 46) (bb 49) (bb 52) (bb 30) (bb 31) (bb 32) (bb 33) (bb 34) (bb 35) (bb 18) (bb 19) (bb 20) (bb 21) (bb 22) (bb 23) (bb 24) (bb 25) (bb 26) (bb 27) (bb 28) (bb 29) (bb 55) (bb 56) (bb 57) (xs 1) (xs 2)) mp_lkL_188 0 rfl [0, 16, 17, 54] [58, 65] rfl rfl rfl rfl rfl ⟨(Nat.le_of_ble_eq_true rfl), (Nat.le_of_ble_eq_true rfl), (Nat.le_of_ble_eq_true rfl), (Nat.le_of_ble_eq_true rfl)⟩ (Nat.le_of_ble_eq_true rfl) (by decide +kernel) (fun v5 w6 h7 => ?_)
  obtain ⟨rfl, rfl⟩ := h7
  show mp_W E X 4 1539 [(3, .int 0), (2, .ref q2), (1, .ref q1), (0, .ref b)] [.int (-2)] [(q2, .inr (10, [.int 0, .ref (mm 1), .ref (mm 2), .ref (mm 3), .ref (mm 4), .ref (mm 5), .int 0, .int 0, .int 0, .int 0, .int 0, .long 0, .int 0, .int 0, .int 0, .int (-1), .ref (mm 6), .ref (mm 7), .ref (mm 8), .ref (mm 9), .ref (mm 10), .ref (mm 11), .ref (mm 12), .ref (mm 13), .int 0, .ref (mm 14), .ref (mm 15), .ref (mm 16), .ref (mm 17), .int 0, .int 0, .int 0, .ref (mm 18), .ref (mm 19), .int 0, .int 0, .ref (mm 20), .ref (mm 21), .ref (mm 22), .int 0, .int 0, .int 0, .int 0, .ref (mm 23), .ref (mm 24), .ref (mm 25), .int 0])), ((mm 7), .inl (E.2.2 0, 25, .inl (fun _ => 0)))] 84 11441
  refine mp_run hF mp_tabL_ok [mp_i (.aload_n 2), mp_i (.aload_n 0), mp_i (.iload_n 3), mp_c (.iconst 1) 1, mp_i .iadd] (by decide +kernel) ?_
  intro z8 h9
  obtain rfl : z8 = 1 := h9.trans (by decide)
  show mp_W E X 4 1544 [(3, .int 0), (2, .ref q2), (1, .ref q1), (0, .ref b)] [.int 1, .ref b, .ref q2, .int (-2)] [(q2, .inr (10, [.int 0, .ref (mm 1), .ref (mm 2), .ref (mm 3), .ref (mm 4), .ref (mm 5), .int 0, .int 0, .int 0, .int 0, .int 0, .long 0, .int 0, .int 0, .int 0, .int (-1), .ref (mm 6), .ref (mm 7), .ref (mm 8), .ref (mm 9), .ref (mm 10), .ref (mm 11), .ref (mm 12), .ref (mm 13), .int 0, .ref (mm 14), .ref (mm 15), .ref (mm 16), .ref (mm 17), .int 0, .int 0, .int 0, .ref (mm 18), .ref (mm 19), .int 0, .int 0, .ref (mm 20), .ref (mm 21), .ref (mm 22), .int 0, .int 0, .int 0, .int 0, .ref (mm 23), .ref (mm 24), .ref (mm 25), .int 0])), ((mm 7), .inl (E.2.2 0, 25, .inl (fun _ => 0)))] 84 11441
  refine mp_lsld hL 1 (by decide) (by decide) (by decide) (by decide +kernel) ?_
  show mp_W E X 4 1545 [(3, .int 0), (2, .ref q2), (1, .ref q1), (0, .ref b)] [.int (xs 1), .ref q2, .int (-2)] [(q2, .inr (10, [.int 0, .ref (mm 1), .ref (mm 2), .ref (mm 3), .ref (mm 4), .ref (mm 5), .int 0, .int 0, .int 0, .int 0, .int 0, .long 0, .int 0, .int 0, .int 0, .int (-1), .ref (mm 6), .ref (mm 7), .ref (mm 8), .ref (mm 9), .ref (mm 10), .ref (mm 11), .ref (mm 12), .ref (mm 13), .int 0, .ref (mm 14), .ref (mm 15), .ref (mm 16), .ref (mm 17), .int 0, .int 0, .int 0, .ref (mm 18), .ref (mm 19), .int 0, .int 0, .ref (mm 20), .ref (mm 21), .ref (mm 22), .int 0, .int 0, .int 0, .int 0, .ref (mm 23), .ref (mm 24), .ref (mm 25), .int 0])), ((mm 7), .inl (E.2.2 0, 25, .inl (fun _ => 0)))] 84 11441
  refine mp_run hF mp_tabL_ok [mp_i (.aload_n 0), mp_i (.iload_n 3), mp_c (.iconst 2) 2, mp_i .iadd] (by decide +kernel) ?_
  intro z10 h11
  obtain rfl : z10 = 2 := h11.trans (by decide)
  show mp_W E X 4 1549 [(3, .int 0), (2, .ref q2), (1, .ref q1), (0, .ref b)] [.int 2, .ref b, .int (xs 1), .ref q2, .int (-2)] [(q2, .inr (10, [.int 0, .ref (mm 1), .ref (mm 2), .ref (mm 3), .ref (mm 4), .ref (mm 5), .int 0, .int 0, .int 0, .int 0, .int 0, .long 0, .int 0, .int 0, .int 0, .int (-1), .ref (mm 6), .ref (mm 7), .ref (mm 8), .ref (mm 9), .ref (mm 10), .ref (mm 11), .ref (mm 12), .ref (mm 13), .int 0, .ref (mm 14), .ref (mm 15), .ref (mm 16), .ref (mm 17), .int 0, .int 0, .int 0, .ref (mm 18), .ref (mm 19), .int 0, .int 0, .ref (mm 20), .ref (mm 21), .ref (mm 22), .int 0, .int 0, .int 0, .int 0, .ref (mm 23), .ref (mm 24), .ref (mm 25), .int 0])), ((mm 7), .inl (E.2.2 0, 25, .inl (fun _ => 0)))] 84 11441
  refine mp_lsld hL 2 (by decide) (by decide) (by decide) (by decide +kernel) ?_
  show mp_W E X 4 1550 [(3, .int 0), (2, .ref q2), (1, .ref q1), (0, .ref b)] [.int (xs 2), .int (xs 1), .ref q2, .int (-2)] [(q2, .inr (10, [.int 0, .ref (mm 1), .ref (mm 2), .ref (mm 3), .ref (mm 4), .ref (mm 5), .int 0, .int 0, .int 0, .int 0, .int 0, .long 0, .int 0, .int 0, .int 0, .int (-1), .ref (mm 6), .ref (mm 7), .ref (mm 8), .ref (mm 9), .ref (mm 10), .ref (mm 11), .ref (mm 12), .ref (mm 13), .int 0, .ref (mm 14), .ref (mm 15), .ref (mm 16), .ref (mm 17), .int 0, .int 0, .int 0, .ref (mm 18), .ref (mm 19), .int 0, .int 0, .ref (mm 20), .ref (mm 21), .ref (mm 22), .int 0, .int 0, .int 0, .int 0, .ref (mm 23), .ref (mm 24), .ref (mm 25), .int 0])), ((mm 7), .inl (E.2.2 0, 25, .inl (fun _ => 0)))] 84 11441
  refine mp_callV hF (As := [.int (xs 1), .int (xs 2)]) (rest := [.int (-2)]) (wr := []) (aX10_times_138 E q2 (mm 7) (mm 1) (mm 2) (mm 3) (mm 4) (mm 5) (mm 6) (mm 8) (mm 9) (mm 10) (mm 11) (mm 12) (mm 13) (mm 14) (mm 15) (mm 16) (mm 17) (mm 18) (mm 19) (mm 20) (mm 21) (mm 22) (mm 23) (mm 24) (mm 25) (xs 1) (xs 2)) mp_lkL_191 0 rfl [0, 1] [] rfl rfl rfl rfl rfl ⟨(Nat.le_of_ble_eq_true rfl), (Nat.le_of_ble_eq_true rfl), (Nat.le_of_ble_eq_true rfl), (Nat.le_of_ble_eq_true rfl)⟩ (Nat.le_of_ble_eq_true rfl) (by decide +kernel) (fun v12 w13 h14 => ?_)
  obtain ⟨rfl, rfl⟩ := h14
  show mp_W E X 4 1553 [(3, .int 0), (2, .ref q2), (1, .ref q1), (0, .ref b)] [.int (-2), .int (-2)] [] 84 11441
  refine mp_run hF mp_tabL_ok [mp_h (.if_icmp .eq 666) [2219]] (by decide +kernel) ?_
  refine And.intro (fun _ => ?_) (fun c15 => absurd c15 (by decide))
  show mp_W E X 4 2219 [(3, .int 0), (2, .ref q2), (1, .ref q1), (0, .ref b)] [] [] 84 11441
  exact mp_sub [3, 0] rfl [] rfl rfl (mp_lw_next hL (Nat.le_of_ble_eq_true rfl) (Nat.le_of_ble_eq_true rfl))

set_option maxHeartbeats 4000000 in
set_option maxRecDepth 100000 in
theorem mp_case_43 {E : mp_E} {X : mp_X} {b : Nat} {xs : Nat → Int32} (hL : mp_Lw E X b 6 xs) (q1 q2 : Nat) (bb mm : Nat → Nat) (vs ln wd : Nat → Int32) (hln : ∀ j, j < 4 → ln j = -1) (hwd : ∀ j, j < 4 → wd j = -1) : mp_W E X 4 1558 [(3, .int 0), (2, .ref q2), (1, .ref q1), (0, .ref b)] [] (mp_w0 E q1 q2 bb mm vs ln wd) 84 11441 := by
  have hF : mp_F E X (RL, code, 4, (2048, 600000, 7302250, 84000), ret, false) := hL.1
  show mp_W E X 4 1558 [(3, .int 0), (2, .ref q2), (1, .ref q1), (0, .ref b)] [] (mp_w0 E q1 q2 bb mm vs ln wd) 84 11441
  refine mp_run hF mp_tabL_ok [mp_i (.aload_n 1), mp_i (.aload_n 0), mp_i (.iload_n 3), mp_c (.iconst 1) 1, mp_i .iadd] (by decide +kernel) ?_
  intro z1 h2
  obtain rfl : z1 = 1 := h2.trans (by decide)
  show mp_W E X 4 1563 [(3, .int 0), (2, .ref q2), (1, .ref q1), (0, .ref b)] [.int 1, .ref b, .ref q1] (mp_w0 E q1 q2 bb mm vs ln wd) 84 11441
  refine mp_lsld hL 1 (by decide) (by decide) (by decide) (by decide +kernel) ?_
  show mp_W E X 4 1564 [(3, .int 0), (2, .ref q2), (1, .ref q1), (0, .ref b)] [.int (xs 1), .ref q1] (mp_w0 E q1 q2 bb mm vs ln wd) 84 11441
  refine mp_run hF mp_tabL_ok [mp_i (.aload_n 0), mp_i (.iload_n 3), mp_c (.iconst 2) 2, mp_i .iadd] (by decide +kernel) ?_
  intro z3 h4
  obtain rfl : z3 = 2 := h4.trans (by decide)
  show mp_W E X 4 1568 [(3, .int 0), (2, .ref q2), (1, .ref q1), (0, .ref b)] [.int 2, .ref b, .int (xs 1), .ref q1] (mp_w0 E q1 q2 bb mm vs ln wd) 84 11441
  refine mp_lsld hL 2 (by decide) (by decide) (by decide) (by decide +kernel) ?_
  show mp_W E X 4 1569 [(3, .int 0), (2, .ref q2), (1, .ref q1), (0, .ref b)] [.int (xs 2), .int (xs 1), .ref q1] (mp_w0 E q1 q2 bb mm vs ln wd) 84 11441
  refine mp_callV hF (As := [.int (xs 1), .int (xs 2)]) (rest := []) (wr := [(q2, .inr (10, [.int 0, .ref (mm 1), .ref (mm 2), .ref (mm 3), .ref (mm 4), .ref (mm 5), .int 0, .int 0, .int 0, .int 0, .int 0, .long 0, .int 0, .int 0, .int 0, .int (-1), .ref (mm 6), .ref (mm 7), .ref (mm 8), .ref (mm 9), .ref (mm 10), .ref (mm 11), .ref (mm 12), .ref (mm 13), .int 0, .ref (mm 14), .ref (mm 15), .ref (mm 16), .ref (mm 17), .int 0, .int 0, .int 0, .ref (mm 18), .ref (mm 19), .int 0, .int 0, .ref (mm 20), .ref (mm 21), .ref (mm 22), .int 0, .int 0, .int 0, .int 0, .ref (mm 23), .ref (mm 24), .ref (mm 25), .int 0])), ((mm 7), .inl (E.2.2 0, 25, .inl (fun _ => 0)))]) (aX9_weigh_139 E q1 (bb 16) (bb 17) (bb 54) (bb 1) (bb 36) (bb 37) (bb 40) (bb 46) (bb 49) (bb 52) (bb 30) (bb 31) (bb 32) (bb 33) (bb 34) (bb 35) (bb 18) (bb 19) (bb 20) (bb 21) (bb 22) (bb 23) (bb 24) (bb 25) (bb 26) (bb 27) (bb 28) (bb 29) (bb 55) (bb 56) (bb 57) (xs 1) (xs 2)) mp_lkL_192 0 rfl [0, 16, 17, 54] [58, 65] rfl rfl rfl rfl rfl ⟨(Nat.le_of_ble_eq_true rfl), (Nat.le_of_ble_eq_true rfl), (Nat.le_of_ble_eq_true rfl), (Nat.le_of_ble_eq_true rfl)⟩ (Nat.le_of_ble_eq_true rfl) (by decide +kernel) (fun v5 w6 h7 => ?_)
  obtain ⟨rfl, rfl⟩ := h7
  show mp_W E X 4 1572 [(3, .int 0), (2, .ref q2), (1, .ref q1), (0, .ref b)] [.int (-2)] [(q2, .inr (10, [.int 0, .ref (mm 1), .ref (mm 2), .ref (mm 3), .ref (mm 4), .ref (mm 5), .int 0, .int 0, .int 0, .int 0, .int 0, .long 0, .int 0, .int 0, .int 0, .int (-1), .ref (mm 6), .ref (mm 7), .ref (mm 8), .ref (mm 9), .ref (mm 10), .ref (mm 11), .ref (mm 12), .ref (mm 13), .int 0, .ref (mm 14), .ref (mm 15), .ref (mm 16), .ref (mm 17), .int 0, .int 0, .int 0, .ref (mm 18), .ref (mm 19), .int 0, .int 0, .ref (mm 20), .ref (mm 21), .ref (mm 22), .int 0, .int 0, .int 0, .int 0, .ref (mm 23), .ref (mm 24), .ref (mm 25), .int 0])), ((mm 7), .inl (E.2.2 0, 25, .inl (fun _ => 0)))] 84 11441
  refine mp_run hF mp_tabL_ok [mp_i (.aload_n 2), mp_i (.aload_n 0), mp_i (.iload_n 3), mp_c (.iconst 1) 1, mp_i .iadd] (by decide +kernel) ?_
  intro z8 h9
  obtain rfl : z8 = 1 := h9.trans (by decide)
  show mp_W E X 4 1577 [(3, .int 0), (2, .ref q2), (1, .ref q1), (0, .ref b)] [.int 1, .ref b, .ref q2, .int (-2)] [(q2, .inr (10, [.int 0, .ref (mm 1), .ref (mm 2), .ref (mm 3), .ref (mm 4), .ref (mm 5), .int 0, .int 0, .int 0, .int 0, .int 0, .long 0, .int 0, .int 0, .int 0, .int (-1), .ref (mm 6), .ref (mm 7), .ref (mm 8), .ref (mm 9), .ref (mm 10), .ref (mm 11), .ref (mm 12), .ref (mm 13), .int 0, .ref (mm 14), .ref (mm 15), .ref (mm 16), .ref (mm 17), .int 0, .int 0, .int 0, .ref (mm 18), .ref (mm 19), .int 0, .int 0, .ref (mm 20), .ref (mm 21), .ref (mm 22), .int 0, .int 0, .int 0, .int 0, .ref (mm 23), .ref (mm 24), .ref (mm 25), .int 0])), ((mm 7), .inl (E.2.2 0, 25, .inl (fun _ => 0)))] 84 11441
  refine mp_lsld hL 1 (by decide) (by decide) (by decide) (by decide +kernel) ?_
  show mp_W E X 4 1578 [(3, .int 0), (2, .ref q2), (1, .ref q1), (0, .ref b)] [.int (xs 1), .ref q2, .int (-2)] [(q2, .inr (10, [.int 0, .ref (mm 1), .ref (mm 2), .ref (mm 3), .ref (mm 4), .ref (mm 5), .int 0, .int 0, .int 0, .int 0, .int 0, .long 0, .int 0, .int 0, .int 0, .int (-1), .ref (mm 6), .ref (mm 7), .ref (mm 8), .ref (mm 9), .ref (mm 10), .ref (mm 11), .ref (mm 12), .ref (mm 13), .int 0, .ref (mm 14), .ref (mm 15), .ref (mm 16), .ref (mm 17), .int 0, .int 0, .int 0, .ref (mm 18), .ref (mm 19), .int 0, .int 0, .ref (mm 20), .ref (mm 21), .ref (mm 22), .int 0, .int 0, .int 0, .int 0, .ref (mm 23), .ref (mm 24), .ref (mm 25), .int 0])), ((mm 7), .inl (E.2.2 0, 25, .inl (fun _ => 0)))] 84 11441
  refine mp_run hF mp_tabL_ok [mp_i (.aload_n 0), mp_i (.iload_n 3), mp_c (.iconst 2) 2, mp_i .iadd] (by decide +kernel) ?_
  intro z10 h11
  obtain rfl : z10 = 2 := h11.trans (by decide)
  show mp_W E X 4 1582 [(3, .int 0), (2, .ref q2), (1, .ref q1), (0, .ref b)] [.int 2, .ref b, .int (xs 1), .ref q2, .int (-2)] [(q2, .inr (10, [.int 0, .ref (mm 1), .ref (mm 2), .ref (mm 3), .ref (mm 4), .ref (mm 5), .int 0, .int 0, .int 0, .int 0, .int 0, .long 0, .int 0, .int 0, .int 0, .int (-1), .ref (mm 6), .ref (mm 7), .ref (mm 8), .ref (mm 9), .ref (mm 10), .ref (mm 11), .ref (mm 12), .ref (mm 13), .int 0, .ref (mm 14), .ref (mm 15), .ref (mm 16), .ref (mm 17), .int 0, .int 0, .int 0, .ref (mm 18), .ref (mm 19), .int 0, .int 0, .ref (mm 20), .ref (mm 21), .ref (mm 22), .int 0, .int 0, .int 0, .int 0, .ref (mm 23), .ref (mm 24), .ref (mm 25), .int 0])), ((mm 7), .inl (E.2.2 0, 25, .inl (fun _ => 0)))] 84 11441
  refine mp_lsld hL 2 (by decide) (by decide) (by decide) (by decide +kernel) ?_
  show mp_W E X 4 1583 [(3, .int 0), (2, .ref q2), (1, .ref q1), (0, .ref b)] [.int (xs 2), .int (xs 1), .ref q2, .int (-2)] [(q2, .inr (10, [.int 0, .ref (mm 1), .ref (mm 2), .ref (mm 3), .ref (mm 4), .ref (mm 5), .int 0, .int 0, .int 0, .int 0, .int 0, .long 0, .int 0, .int 0, .int 0, .int (-1), .ref (mm 6), .ref (mm 7), .ref (mm 8), .ref (mm 9), .ref (mm 10), .ref (mm 11), .ref (mm 12), .ref (mm 13), .int 0, .ref (mm 14), .ref (mm 15), .ref (mm 16), .ref (mm 17), .int 0, .int 0, .int 0, .ref (mm 18), .ref (mm 19), .int 0, .int 0, .ref (mm 20), .ref (mm 21), .ref (mm 22), .int 0, .int 0, .int 0, .int 0, .ref (mm 23), .ref (mm 24), .ref (mm 25), .int 0])), ((mm 7), .inl (E.2.2 0, 25, .inl (fun _ => 0)))] 84 11441
  refine mp_callV hF (As := [.int (xs 1), .int (xs 2)]) (rest := [.int (-2)]) (wr := []) (aX10_weigh_140 E q2 (mm 7) (mm 1) (mm 2) (mm 3) (mm 4) (mm 5) (mm 6) (mm 8) (mm 9) (mm 10) (mm 11) (mm 12) (mm 13) (mm 14) (mm 15) (mm 16) (mm 17) (mm 18) (mm 19) (mm 20) (mm 21) (mm 22) (mm 23) (mm 24) (mm 25) (xs 1) (xs 2)) mp_lkL_195 0 rfl [0, 1] [] rfl rfl rfl rfl rfl ⟨(Nat.le_of_ble_eq_true rfl), (Nat.le_of_ble_eq_true rfl), (Nat.le_of_ble_eq_true rfl), (Nat.le_of_ble_eq_true rfl)⟩ (Nat.le_of_ble_eq_true rfl) (by decide +kernel) (fun v12 w13 h14 => ?_)
  obtain ⟨rfl, rfl⟩ := h14
  show mp_W E X 4 1586 [(3, .int 0), (2, .ref q2), (1, .ref q1), (0, .ref b)] [.int (-2), .int (-2)] [] 84 11441
  refine mp_run hF mp_tabL_ok [mp_h (.if_icmp .eq 633) [2219]] (by decide +kernel) ?_
  refine And.intro (fun _ => ?_) (fun c15 => absurd c15 (by decide))
  show mp_W E X 4 2219 [(3, .int 0), (2, .ref q2), (1, .ref q1), (0, .ref b)] [] [] 84 11441
  exact mp_sub [3, 0] rfl [] rfl rfl (mp_lw_next hL (Nat.le_of_ble_eq_true rfl) (Nat.le_of_ble_eq_true rfl))

set_option maxHeartbeats 4000000 in
set_option maxRecDepth 100000 in
theorem mp_case_44 {E : mp_E} {X : mp_X} {b : Nat} {xs : Nat → Int32} (hL : mp_Lw E X b 6 xs) (q1 q2 : Nat) (bb mm : Nat → Nat) (vs ln wd : Nat → Int32) (hln : ∀ j, j < 4 → ln j = -1) (hwd : ∀ j, j < 4 → wd j = -1) : mp_W E X 4 1591 [(3, .int 0), (2, .ref q2), (1, .ref q1), (0, .ref b)] [] (mp_w0 E q1 q2 bb mm vs ln wd) 84 11441 := by
  have hF : mp_F E X (RL, code, 4, (2048, 600000, 7302250, 84000), ret, false) := hL.1
  show mp_W E X 4 1591 [(3, .int 0), (2, .ref q2), (1, .ref q1), (0, .ref b)] [] (mp_w0 E q1 q2 bb mm vs ln wd) 84 11441
  refine mp_run hF mp_tabL_ok [mp_i (.aload_n 1), mp_i (.aload_n 0), mp_i (.iload_n 3), mp_c (.iconst 1) 1, mp_i .iadd] (by decide +kernel) ?_
  intro z1 h2
  obtain rfl : z1 = 1 := h2.trans (by decide)
  show mp_W E X 4 1596 [(3, .int 0), (2, .ref q2), (1, .ref q1), (0, .ref b)] [.int 1, .ref b, .ref q1] (mp_w0 E q1 q2 bb mm vs ln wd) 84 11441
  refine mp_lsld hL 1 (by decide) (by decide) (by decide) (by decide +kernel) ?_
  show mp_W E X 4 1597 [(3, .int 0), (2, .ref q2), (1, .ref q1), (0, .ref b)] [.int (xs 1), .ref q1] (mp_w0 E q1 q2 bb mm vs ln wd) 84 11441
  refine mp_run hF mp_tabL_ok [mp_i (.aload_n 0), mp_i (.iload_n 3), mp_c (.iconst 2) 2, mp_i .iadd] (by decide +kernel) ?_
  intro z3 h4
  obtain rfl : z3 = 2 := h4.trans (by decide)
  show mp_W E X 4 1601 [(3, .int 0), (2, .ref q2), (1, .ref q1), (0, .ref b)] [.int 2, .ref b, .int (xs 1), .ref q1] (mp_w0 E q1 q2 bb mm vs ln wd) 84 11441
  refine mp_lsld hL 2 (by decide) (by decide) (by decide) (by decide +kernel) ?_
  show mp_W E X 4 1602 [(3, .int 0), (2, .ref q2), (1, .ref q1), (0, .ref b)] [.int (xs 2), .int (xs 1), .ref q1] (mp_w0 E q1 q2 bb mm vs ln wd) 84 11441
  refine mp_callV hF (As := [.int (xs 1), .int (xs 2)]) (rest := []) (wr := [(q2, .inr (10, [.int 0, .ref (mm 1), .ref (mm 2), .ref (mm 3), .ref (mm 4), .ref (mm 5), .int 0, .int 0, .int 0, .int 0, .int 0, .long 0, .int 0, .int 0, .int 0, .int (-1), .ref (mm 6), .ref (mm 7), .ref (mm 8), .ref (mm 9), .ref (mm 10), .ref (mm 11), .ref (mm 12), .ref (mm 13), .int 0, .ref (mm 14), .ref (mm 15), .ref (mm 16), .ref (mm 17), .int 0, .int 0, .int 0, .ref (mm 18), .ref (mm 19), .int 0, .int 0, .ref (mm 20), .ref (mm 21), .ref (mm 22), .int 0, .int 0, .int 0, .int 0, .ref (mm 23), .ref (mm 24), .ref (mm 25), .int 0])), ((mm 7), .inl (E.2.2 0, 25, .inl (fun _ => 0)))]) (aX9_said_141 E q1 (bb 16) (bb 17) (bb 54) (bb 1) (bb 36) (bb 37) (bb 40) (bb 46) (bb 49) (bb 52) (bb 30) (bb 31) (bb 32) (bb 33) (bb 34) (bb 35) (bb 18) (bb 19) (bb 20) (bb 21) (bb 22) (bb 23) (bb 24) (bb 25) (bb 26) (bb 27) (bb 28) (bb 29) (bb 55) (bb 56) (bb 57) (xs 1) (xs 2)) mp_lkL_196 0 rfl [0, 16, 17, 54] [58, 65] rfl rfl rfl rfl rfl ⟨(Nat.le_of_ble_eq_true rfl), (Nat.le_of_ble_eq_true rfl), (Nat.le_of_ble_eq_true rfl), (Nat.le_of_ble_eq_true rfl)⟩ (Nat.le_of_ble_eq_true rfl) (by decide +kernel) (fun v5 w6 h7 => ?_)
  obtain ⟨rfl, rfl⟩ := h7
  show mp_W E X 4 1605 [(3, .int 0), (2, .ref q2), (1, .ref q1), (0, .ref b)] [.int (-2)] [(q2, .inr (10, [.int 0, .ref (mm 1), .ref (mm 2), .ref (mm 3), .ref (mm 4), .ref (mm 5), .int 0, .int 0, .int 0, .int 0, .int 0, .long 0, .int 0, .int 0, .int 0, .int (-1), .ref (mm 6), .ref (mm 7), .ref (mm 8), .ref (mm 9), .ref (mm 10), .ref (mm 11), .ref (mm 12), .ref (mm 13), .int 0, .ref (mm 14), .ref (mm 15), .ref (mm 16), .ref (mm 17), .int 0, .int 0, .int 0, .ref (mm 18), .ref (mm 19), .int 0, .int 0, .ref (mm 20), .ref (mm 21), .ref (mm 22), .int 0, .int 0, .int 0, .int 0, .ref (mm 23), .ref (mm 24), .ref (mm 25), .int 0])), ((mm 7), .inl (E.2.2 0, 25, .inl (fun _ => 0)))] 84 11441
  refine mp_run hF mp_tabL_ok [mp_i (.aload_n 2), mp_i (.aload_n 0), mp_i (.iload_n 3), mp_c (.iconst 1) 1, mp_i .iadd] (by decide +kernel) ?_
  intro z8 h9
  obtain rfl : z8 = 1 := h9.trans (by decide)
  show mp_W E X 4 1610 [(3, .int 0), (2, .ref q2), (1, .ref q1), (0, .ref b)] [.int 1, .ref b, .ref q2, .int (-2)] [(q2, .inr (10, [.int 0, .ref (mm 1), .ref (mm 2), .ref (mm 3), .ref (mm 4), .ref (mm 5), .int 0, .int 0, .int 0, .int 0, .int 0, .long 0, .int 0, .int 0, .int 0, .int (-1), .ref (mm 6), .ref (mm 7), .ref (mm 8), .ref (mm 9), .ref (mm 10), .ref (mm 11), .ref (mm 12), .ref (mm 13), .int 0, .ref (mm 14), .ref (mm 15), .ref (mm 16), .ref (mm 17), .int 0, .int 0, .int 0, .ref (mm 18), .ref (mm 19), .int 0, .int 0, .ref (mm 20), .ref (mm 21), .ref (mm 22), .int 0, .int 0, .int 0, .int 0, .ref (mm 23), .ref (mm 24), .ref (mm 25), .int 0])), ((mm 7), .inl (E.2.2 0, 25, .inl (fun _ => 0)))] 84 11441
  refine mp_lsld hL 1 (by decide) (by decide) (by decide) (by decide +kernel) ?_
  show mp_W E X 4 1611 [(3, .int 0), (2, .ref q2), (1, .ref q1), (0, .ref b)] [.int (xs 1), .ref q2, .int (-2)] [(q2, .inr (10, [.int 0, .ref (mm 1), .ref (mm 2), .ref (mm 3), .ref (mm 4), .ref (mm 5), .int 0, .int 0, .int 0, .int 0, .int 0, .long 0, .int 0, .int 0, .int 0, .int (-1), .ref (mm 6), .ref (mm 7), .ref (mm 8), .ref (mm 9), .ref (mm 10), .ref (mm 11), .ref (mm 12), .ref (mm 13), .int 0, .ref (mm 14), .ref (mm 15), .ref (mm 16), .ref (mm 17), .int 0, .int 0, .int 0, .ref (mm 18), .ref (mm 19), .int 0, .int 0, .ref (mm 20), .ref (mm 21), .ref (mm 22), .int 0, .int 0, .int 0, .int 0, .ref (mm 23), .ref (mm 24), .ref (mm 25), .int 0])), ((mm 7), .inl (E.2.2 0, 25, .inl (fun _ => 0)))] 84 11441
  refine mp_run hF mp_tabL_ok [mp_i (.aload_n 0), mp_i (.iload_n 3), mp_c (.iconst 2) 2, mp_i .iadd] (by decide +kernel) ?_
  intro z10 h11
  obtain rfl : z10 = 2 := h11.trans (by decide)
  show mp_W E X 4 1615 [(3, .int 0), (2, .ref q2), (1, .ref q1), (0, .ref b)] [.int 2, .ref b, .int (xs 1), .ref q2, .int (-2)] [(q2, .inr (10, [.int 0, .ref (mm 1), .ref (mm 2), .ref (mm 3), .ref (mm 4), .ref (mm 5), .int 0, .int 0, .int 0, .int 0, .int 0, .long 0, .int 0, .int 0, .int 0, .int (-1), .ref (mm 6), .ref (mm 7), .ref (mm 8), .ref (mm 9), .ref (mm 10), .ref (mm 11), .ref (mm 12), .ref (mm 13), .int 0, .ref (mm 14), .ref (mm 15), .ref (mm 16), .ref (mm 17), .int 0, .int 0, .int 0, .ref (mm 18), .ref (mm 19), .int 0, .int 0, .ref (mm 20), .ref (mm 21), .ref (mm 22), .int 0, .int 0, .int 0, .int 0, .ref (mm 23), .ref (mm 24), .ref (mm 25), .int 0])), ((mm 7), .inl (E.2.2 0, 25, .inl (fun _ => 0)))] 84 11441
  refine mp_lsld hL 2 (by decide) (by decide) (by decide) (by decide +kernel) ?_
  show mp_W E X 4 1616 [(3, .int 0), (2, .ref q2), (1, .ref q1), (0, .ref b)] [.int (xs 2), .int (xs 1), .ref q2, .int (-2)] [(q2, .inr (10, [.int 0, .ref (mm 1), .ref (mm 2), .ref (mm 3), .ref (mm 4), .ref (mm 5), .int 0, .int 0, .int 0, .int 0, .int 0, .long 0, .int 0, .int 0, .int 0, .int (-1), .ref (mm 6), .ref (mm 7), .ref (mm 8), .ref (mm 9), .ref (mm 10), .ref (mm 11), .ref (mm 12), .ref (mm 13), .int 0, .ref (mm 14), .ref (mm 15), .ref (mm 16), .ref (mm 17), .int 0, .int 0, .int 0, .ref (mm 18), .ref (mm 19), .int 0, .int 0, .ref (mm 20), .ref (mm 21), .ref (mm 22), .int 0, .int 0, .int 0, .int 0, .ref (mm 23), .ref (mm 24), .ref (mm 25), .int 0])), ((mm 7), .inl (E.2.2 0, 25, .inl (fun _ => 0)))] 84 11441
  refine mp_callV hF (As := [.int (xs 1), .int (xs 2)]) (rest := [.int (-2)]) (wr := []) (aX10_said_142 E q2 (mm 7) (mm 1) (mm 2) (mm 3) (mm 4) (mm 5) (mm 6) (mm 8) (mm 9) (mm 10) (mm 11) (mm 12) (mm 13) (mm 14) (mm 15) (mm 16) (mm 17) (mm 18) (mm 19) (mm 20) (mm 21) (mm 22) (mm 23) (mm 24) (mm 25) (xs 1) (xs 2)) mp_lkL_199 0 rfl [0, 1] [] rfl rfl rfl rfl rfl ⟨(Nat.le_of_ble_eq_true rfl), (Nat.le_of_ble_eq_true rfl), (Nat.le_of_ble_eq_true rfl), (Nat.le_of_ble_eq_true rfl)⟩ (Nat.le_of_ble_eq_true rfl) (by decide +kernel) (fun v12 w13 h14 => ?_)
  obtain ⟨rfl, rfl⟩ := h14
  show mp_W E X 4 1619 [(3, .int 0), (2, .ref q2), (1, .ref q1), (0, .ref b)] [.int (-2), .int (-2)] [] 84 11441
  refine mp_run hF mp_tabL_ok [mp_h (.if_icmp .eq 600) [2219]] (by decide +kernel) ?_
  refine And.intro (fun _ => ?_) (fun c15 => absurd c15 (by decide))
  show mp_W E X 4 2219 [(3, .int 0), (2, .ref q2), (1, .ref q1), (0, .ref b)] [] [] 84 11441
  exact mp_sub [3, 0] rfl [] rfl rfl (mp_lw_next hL (Nat.le_of_ble_eq_true rfl) (Nat.le_of_ble_eq_true rfl))

set_option maxHeartbeats 4000000 in
set_option maxRecDepth 100000 in
theorem mp_case_45 {E : mp_E} {X : mp_X} {b : Nat} {xs : Nat → Int32} (hL : mp_Lw E X b 6 xs) (q1 q2 : Nat) (bb mm : Nat → Nat) (vs ln wd : Nat → Int32) (hln : ∀ j, j < 4 → ln j = -1) (hwd : ∀ j, j < 4 → wd j = -1) : mp_W E X 4 1624 [(3, .int 0), (2, .ref q2), (1, .ref q1), (0, .ref b)] [] (mp_w0 E q1 q2 bb mm vs ln wd) 84 11441 := by
  have hF : mp_F E X (RL, code, 4, (2048, 600000, 7302250, 84000), ret, false) := hL.1
  show mp_W E X 4 1624 [(3, .int 0), (2, .ref q2), (1, .ref q1), (0, .ref b)] [] (mp_w0 E q1 q2 bb mm vs ln wd) 84 11441
  refine mp_run hF mp_tabL_ok [mp_i (.aload_n 1), mp_i (.aload_n 0), mp_i (.iload_n 3), mp_c (.iconst 1) 1, mp_i .iadd] (by decide +kernel) ?_
  intro z1 h2
  obtain rfl : z1 = 1 := h2.trans (by decide)
  show mp_W E X 4 1629 [(3, .int 0), (2, .ref q2), (1, .ref q1), (0, .ref b)] [.int 1, .ref b, .ref q1] (mp_w0 E q1 q2 bb mm vs ln wd) 84 11441
  refine mp_lsld hL 1 (by decide) (by decide) (by decide) (by decide +kernel) ?_
  show mp_W E X 4 1630 [(3, .int 0), (2, .ref q2), (1, .ref q1), (0, .ref b)] [.int (xs 1), .ref q1] (mp_w0 E q1 q2 bb mm vs ln wd) 84 11441
  refine mp_run hF mp_tabL_ok [mp_i (.aload_n 0), mp_i (.iload_n 3), mp_c (.iconst 2) 2, mp_i .iadd] (by decide +kernel) ?_
  intro z3 h4
  obtain rfl : z3 = 2 := h4.trans (by decide)
  show mp_W E X 4 1634 [(3, .int 0), (2, .ref q2), (1, .ref q1), (0, .ref b)] [.int 2, .ref b, .int (xs 1), .ref q1] (mp_w0 E q1 q2 bb mm vs ln wd) 84 11441
  refine mp_lsld hL 2 (by decide) (by decide) (by decide) (by decide +kernel) ?_
  show mp_W E X 4 1635 [(3, .int 0), (2, .ref q2), (1, .ref q1), (0, .ref b)] [.int (xs 2), .int (xs 1), .ref q1] (mp_w0 E q1 q2 bb mm vs ln wd) 84 11441
  refine mp_run hF mp_tabL_ok [mp_i (.aload_n 0), mp_i (.iload_n 3), mp_c (.iconst 3) 3, mp_i .iadd] (by decide +kernel) ?_
  intro z5 h6
  obtain rfl : z5 = 3 := h6.trans (by decide)
  show mp_W E X 4 1639 [(3, .int 0), (2, .ref q2), (1, .ref q1), (0, .ref b)] [.int 3, .ref b, .int (xs 2), .int (xs 1), .ref q1] (mp_w0 E q1 q2 bb mm vs ln wd) 84 11441
  refine mp_lsld hL 3 (by decide) (by decide) (by decide) (by decide +kernel) ?_
  show mp_W E X 4 1640 [(3, .int 0), (2, .ref q2), (1, .ref q1), (0, .ref b)] [.int (xs 3), .int (xs 2), .int (xs 1), .ref q1] (mp_w0 E q1 q2 bb mm vs ln wd) 84 11441
  refine mp_callV hF (As := [.int (xs 1), .int (xs 2), .int (xs 3)]) (rest := []) (wr := [(q2, .inr (10, [.int 0, .ref (mm 1), .ref (mm 2), .ref (mm 3), .ref (mm 4), .ref (mm 5), .int 0, .int 0, .int 0, .int 0, .int 0, .long 0, .int 0, .int 0, .int 0, .int (-1), .ref (mm 6), .ref (mm 7), .ref (mm 8), .ref (mm 9), .ref (mm 10), .ref (mm 11), .ref (mm 12), .ref (mm 13), .int 0, .ref (mm 14), .ref (mm 15), .ref (mm 16), .ref (mm 17), .int 0, .int 0, .int 0, .ref (mm 18), .ref (mm 19), .int 0, .int 0, .ref (mm 20), .ref (mm 21), .ref (mm 22), .int 0, .int 0, .int 0, .int 0, .ref (mm 23), .ref (mm 24), .ref (mm 25), .int 0])), ((mm 7), .inl (E.2.2 0, 25, .inl (fun _ => 0)))]) (aX9_span_143 E q1 (bb 16) (bb 17) (bb 54) (bb 1) (bb 36) (bb 37) (bb 40) (bb 46) (bb 49) (bb 52) (bb 30) (bb 31) (bb 32) (bb 33) (bb 34) (bb 35) (bb 18) (bb 19) (bb 20) (bb 21) (bb 22) (bb 23) (bb 24) (bb 25) (bb 26) (bb 27) (bb 28) (bb 29) (bb 55) (bb 56) (bb 57) (xs 1) (xs 2) (xs 3)) mp_lkL_200 0 rfl [0, 16, 17, 54] [58, 65] rfl rfl rfl rfl rfl ⟨(Nat.le_of_ble_eq_true rfl), (Nat.le_of_ble_eq_true rfl), (Nat.le_of_ble_eq_true rfl), (Nat.le_of_ble_eq_true rfl)⟩ (Nat.le_of_ble_eq_true rfl) (by decide +kernel) (fun v7 w8 h9 => ?_)
  obtain ⟨rfl, rfl⟩ := h9
  show mp_W E X 4 1643 [(3, .int 0), (2, .ref q2), (1, .ref q1), (0, .ref b)] [.int (-2)] [(q2, .inr (10, [.int 0, .ref (mm 1), .ref (mm 2), .ref (mm 3), .ref (mm 4), .ref (mm 5), .int 0, .int 0, .int 0, .int 0, .int 0, .long 0, .int 0, .int 0, .int 0, .int (-1), .ref (mm 6), .ref (mm 7), .ref (mm 8), .ref (mm 9), .ref (mm 10), .ref (mm 11), .ref (mm 12), .ref (mm 13), .int 0, .ref (mm 14), .ref (mm 15), .ref (mm 16), .ref (mm 17), .int 0, .int 0, .int 0, .ref (mm 18), .ref (mm 19), .int 0, .int 0, .ref (mm 20), .ref (mm 21), .ref (mm 22), .int 0, .int 0, .int 0, .int 0, .ref (mm 23), .ref (mm 24), .ref (mm 25), .int 0])), ((mm 7), .inl (E.2.2 0, 25, .inl (fun _ => 0)))] 84 11441
  refine mp_run hF mp_tabL_ok [mp_i (.aload_n 2), mp_i (.aload_n 0), mp_i (.iload_n 3), mp_c (.iconst 1) 1, mp_i .iadd] (by decide +kernel) ?_
  intro z10 h11
  obtain rfl : z10 = 1 := h11.trans (by decide)
  show mp_W E X 4 1648 [(3, .int 0), (2, .ref q2), (1, .ref q1), (0, .ref b)] [.int 1, .ref b, .ref q2, .int (-2)] [(q2, .inr (10, [.int 0, .ref (mm 1), .ref (mm 2), .ref (mm 3), .ref (mm 4), .ref (mm 5), .int 0, .int 0, .int 0, .int 0, .int 0, .long 0, .int 0, .int 0, .int 0, .int (-1), .ref (mm 6), .ref (mm 7), .ref (mm 8), .ref (mm 9), .ref (mm 10), .ref (mm 11), .ref (mm 12), .ref (mm 13), .int 0, .ref (mm 14), .ref (mm 15), .ref (mm 16), .ref (mm 17), .int 0, .int 0, .int 0, .ref (mm 18), .ref (mm 19), .int 0, .int 0, .ref (mm 20), .ref (mm 21), .ref (mm 22), .int 0, .int 0, .int 0, .int 0, .ref (mm 23), .ref (mm 24), .ref (mm 25), .int 0])), ((mm 7), .inl (E.2.2 0, 25, .inl (fun _ => 0)))] 84 11441
  refine mp_lsld hL 1 (by decide) (by decide) (by decide) (by decide +kernel) ?_
  show mp_W E X 4 1649 [(3, .int 0), (2, .ref q2), (1, .ref q1), (0, .ref b)] [.int (xs 1), .ref q2, .int (-2)] [(q2, .inr (10, [.int 0, .ref (mm 1), .ref (mm 2), .ref (mm 3), .ref (mm 4), .ref (mm 5), .int 0, .int 0, .int 0, .int 0, .int 0, .long 0, .int 0, .int 0, .int 0, .int (-1), .ref (mm 6), .ref (mm 7), .ref (mm 8), .ref (mm 9), .ref (mm 10), .ref (mm 11), .ref (mm 12), .ref (mm 13), .int 0, .ref (mm 14), .ref (mm 15), .ref (mm 16), .ref (mm 17), .int 0, .int 0, .int 0, .ref (mm 18), .ref (mm 19), .int 0, .int 0, .ref (mm 20), .ref (mm 21), .ref (mm 22), .int 0, .int 0, .int 0, .int 0, .ref (mm 23), .ref (mm 24), .ref (mm 25), .int 0])), ((mm 7), .inl (E.2.2 0, 25, .inl (fun _ => 0)))] 84 11441
  refine mp_run hF mp_tabL_ok [mp_i (.aload_n 0), mp_i (.iload_n 3), mp_c (.iconst 2) 2, mp_i .iadd] (by decide +kernel) ?_
  intro z12 h13
  obtain rfl : z12 = 2 := h13.trans (by decide)
  show mp_W E X 4 1653 [(3, .int 0), (2, .ref q2), (1, .ref q1), (0, .ref b)] [.int 2, .ref b, .int (xs 1), .ref q2, .int (-2)] [(q2, .inr (10, [.int 0, .ref (mm 1), .ref (mm 2), .ref (mm 3), .ref (mm 4), .ref (mm 5), .int 0, .int 0, .int 0, .int 0, .int 0, .long 0, .int 0, .int 0, .int 0, .int (-1), .ref (mm 6), .ref (mm 7), .ref (mm 8), .ref (mm 9), .ref (mm 10), .ref (mm 11), .ref (mm 12), .ref (mm 13), .int 0, .ref (mm 14), .ref (mm 15), .ref (mm 16), .ref (mm 17), .int 0, .int 0, .int 0, .ref (mm 18), .ref (mm 19), .int 0, .int 0, .ref (mm 20), .ref (mm 21), .ref (mm 22), .int 0, .int 0, .int 0, .int 0, .ref (mm 23), .ref (mm 24), .ref (mm 25), .int 0])), ((mm 7), .inl (E.2.2 0, 25, .inl (fun _ => 0)))] 84 11441
  refine mp_lsld hL 2 (by decide) (by decide) (by decide) (by decide +kernel) ?_
  show mp_W E X 4 1654 [(3, .int 0), (2, .ref q2), (1, .ref q1), (0, .ref b)] [.int (xs 2), .int (xs 1), .ref q2, .int (-2)] [(q2, .inr (10, [.int 0, .ref (mm 1), .ref (mm 2), .ref (mm 3), .ref (mm 4), .ref (mm 5), .int 0, .int 0, .int 0, .int 0, .int 0, .long 0, .int 0, .int 0, .int 0, .int (-1), .ref (mm 6), .ref (mm 7), .ref (mm 8), .ref (mm 9), .ref (mm 10), .ref (mm 11), .ref (mm 12), .ref (mm 13), .int 0, .ref (mm 14), .ref (mm 15), .ref (mm 16), .ref (mm 17), .int 0, .int 0, .int 0, .ref (mm 18), .ref (mm 19), .int 0, .int 0, .ref (mm 20), .ref (mm 21), .ref (mm 22), .int 0, .int 0, .int 0, .int 0, .ref (mm 23), .ref (mm 24), .ref (mm 25), .int 0])), ((mm 7), .inl (E.2.2 0, 25, .inl (fun _ => 0)))] 84 11441
  refine mp_run hF mp_tabL_ok [mp_i (.aload_n 0), mp_i (.iload_n 3), mp_c (.iconst 3) 3, mp_i .iadd] (by decide +kernel) ?_
  intro z14 h15
  obtain rfl : z14 = 3 := h15.trans (by decide)
  show mp_W E X 4 1658 [(3, .int 0), (2, .ref q2), (1, .ref q1), (0, .ref b)] [.int 3, .ref b, .int (xs 2), .int (xs 1), .ref q2, .int (-2)] [(q2, .inr (10, [.int 0, .ref (mm 1), .ref (mm 2), .ref (mm 3), .ref (mm 4), .ref (mm 5), .int 0, .int 0, .int 0, .int 0, .int 0, .long 0, .int 0, .int 0, .int 0, .int (-1), .ref (mm 6), .ref (mm 7), .ref (mm 8), .ref (mm 9), .ref (mm 10), .ref (mm 11), .ref (mm 12), .ref (mm 13), .int 0, .ref (mm 14), .ref (mm 15), .ref (mm 16), .ref (mm 17), .int 0, .int 0, .int 0, .ref (mm 18), .ref (mm 19), .int 0, .int 0, .ref (mm 20), .ref (mm 21), .ref (mm 22), .int 0, .int 0, .int 0, .int 0, .ref (mm 23), .ref (mm 24), .ref (mm 25), .int 0])), ((mm 7), .inl (E.2.2 0, 25, .inl (fun _ => 0)))] 84 11441
  refine mp_lsld hL 3 (by decide) (by decide) (by decide) (by decide +kernel) ?_
  show mp_W E X 4 1659 [(3, .int 0), (2, .ref q2), (1, .ref q1), (0, .ref b)] [.int (xs 3), .int (xs 2), .int (xs 1), .ref q2, .int (-2)] [(q2, .inr (10, [.int 0, .ref (mm 1), .ref (mm 2), .ref (mm 3), .ref (mm 4), .ref (mm 5), .int 0, .int 0, .int 0, .int 0, .int 0, .long 0, .int 0, .int 0, .int 0, .int (-1), .ref (mm 6), .ref (mm 7), .ref (mm 8), .ref (mm 9), .ref (mm 10), .ref (mm 11), .ref (mm 12), .ref (mm 13), .int 0, .ref (mm 14), .ref (mm 15), .ref (mm 16), .ref (mm 17), .int 0, .int 0, .int 0, .ref (mm 18), .ref (mm 19), .int 0, .int 0, .ref (mm 20), .ref (mm 21), .ref (mm 22), .int 0, .int 0, .int 0, .int 0, .ref (mm 23), .ref (mm 24), .ref (mm 25), .int 0])), ((mm 7), .inl (E.2.2 0, 25, .inl (fun _ => 0)))] 84 11441
  refine mp_callV hF (As := [.int (xs 1), .int (xs 2), .int (xs 3)]) (rest := [.int (-2)]) (wr := []) (aX10_span_144 E q2 (mm 7) (mm 1) (mm 2) (mm 3) (mm 4) (mm 5) (mm 6) (mm 8) (mm 9) (mm 10) (mm 11) (mm 12) (mm 13) (mm 14) (mm 15) (mm 16) (mm 17) (mm 18) (mm 19) (mm 20) (mm 21) (mm 22) (mm 23) (mm 24) (mm 25) (xs 1) (xs 2) (xs 3)) mp_lkL_203 0 rfl [0, 1] [] rfl rfl rfl rfl rfl ⟨(Nat.le_of_ble_eq_true rfl), (Nat.le_of_ble_eq_true rfl), (Nat.le_of_ble_eq_true rfl), (Nat.le_of_ble_eq_true rfl)⟩ (Nat.le_of_ble_eq_true rfl) (by decide +kernel) (fun v16 w17 h18 => ?_)
  obtain ⟨rfl, rfl⟩ := h18
  show mp_W E X 4 1662 [(3, .int 0), (2, .ref q2), (1, .ref q1), (0, .ref b)] [.int (-2), .int (-2)] [] 84 11441
  refine mp_run hF mp_tabL_ok [mp_h (.if_icmp .eq 557) [2219]] (by decide +kernel) ?_
  refine And.intro (fun _ => ?_) (fun c19 => absurd c19 (by decide))
  show mp_W E X 4 2219 [(3, .int 0), (2, .ref q2), (1, .ref q1), (0, .ref b)] [] [] 84 11441
  exact mp_sub [3, 0] rfl [] rfl rfl (mp_lw_next hL (Nat.le_of_ble_eq_true rfl) (Nat.le_of_ble_eq_true rfl))

set_option maxHeartbeats 4000000 in
set_option maxRecDepth 100000 in
theorem mp_case_46 {E : mp_E} {X : mp_X} {b : Nat} {xs : Nat → Int32} (hL : mp_Lw E X b 6 xs) (q1 q2 : Nat) (bb mm : Nat → Nat) (vs ln wd : Nat → Int32) (hln : ∀ j, j < 4 → ln j = -1) (hwd : ∀ j, j < 4 → wd j = -1) : mp_W E X 4 1667 [(3, .int 0), (2, .ref q2), (1, .ref q1), (0, .ref b)] [] (mp_w0 E q1 q2 bb mm vs ln wd) 84 11441 := by
  have hF : mp_F E X (RL, code, 4, (2048, 600000, 7302250, 84000), ret, false) := hL.1
  show mp_W E X 4 1667 [(3, .int 0), (2, .ref q2), (1, .ref q1), (0, .ref b)] [] (mp_w0 E q1 q2 bb mm vs ln wd) 84 11441
  refine mp_run hF mp_tabL_ok [mp_i (.aload_n 1), mp_i (.aload_n 0), mp_i (.iload_n 3), mp_c (.iconst 1) 1, mp_i .iadd] (by decide +kernel) ?_
  intro z1 h2
  obtain rfl : z1 = 1 := h2.trans (by decide)
  show mp_W E X 4 1672 [(3, .int 0), (2, .ref q2), (1, .ref q1), (0, .ref b)] [.int 1, .ref b, .ref q1] (mp_w0 E q1 q2 bb mm vs ln wd) 84 11441
  refine mp_lsld hL 1 (by decide) (by decide) (by decide) (by decide +kernel) ?_
  show mp_W E X 4 1673 [(3, .int 0), (2, .ref q2), (1, .ref q1), (0, .ref b)] [.int (xs 1), .ref q1] (mp_w0 E q1 q2 bb mm vs ln wd) 84 11441
  refine mp_callV hF (As := [.int (xs 1)]) (rest := []) (wr := [(q2, .inr (10, [.int 0, .ref (mm 1), .ref (mm 2), .ref (mm 3), .ref (mm 4), .ref (mm 5), .int 0, .int 0, .int 0, .int 0, .int 0, .long 0, .int 0, .int 0, .int 0, .int (-1), .ref (mm 6), .ref (mm 7), .ref (mm 8), .ref (mm 9), .ref (mm 10), .ref (mm 11), .ref (mm 12), .ref (mm 13), .int 0, .ref (mm 14), .ref (mm 15), .ref (mm 16), .ref (mm 17), .int 0, .int 0, .int 0, .ref (mm 18), .ref (mm 19), .int 0, .int 0, .ref (mm 20), .ref (mm 21), .ref (mm 22), .int 0, .int 0, .int 0, .int 0, .ref (mm 23), .ref (mm 24), .ref (mm 25), .int 0])), ((mm 1), .inl (E.2.2 0, 4, .inl wd))]) (aX9_wins_147 E q1 (bb 54) (bb 57) (bb 1) (bb 16) (bb 36) (bb 37) (bb 40) (bb 46) (bb 49) (bb 52) (bb 55) (bb 56) ln (xs 1) hln) mp_lkL_204 0 rfl [0, 54, 57] [58, 59] rfl rfl rfl rfl rfl ⟨(Nat.le_of_ble_eq_true rfl), (Nat.le_of_ble_eq_true rfl), (Nat.le_of_ble_eq_true rfl), (Nat.le_of_ble_eq_true rfl)⟩ (Nat.le_of_ble_eq_true rfl) (by decide +kernel) (fun v3 w4 h5 => ?_)
  rcases h5 with ⟨rfl, c6, rfl⟩ | ⟨rfl, c7, c8, rfl⟩ | ⟨rfl, c9, c10, rfl⟩
  · skip
    have c6 : (xs 1).toInt < 0 := c6
    show mp_W E X 4 1676 [(3, .int 0), (2, .ref q2), (1, .ref q1), (0, .ref b)] [.int (-2)] [(q2, .inr (10, [.int 0, .ref (mm 1), .ref (mm 2), .ref (mm 3), .ref (mm 4), .ref (mm 5), .int 0, .int 0, .int 0, .int 0, .int 0, .long 0, .int 0, .int 0, .int 0, .int (-1), .ref (mm 6), .ref (mm 7), .ref (mm 8), .ref (mm 9), .ref (mm 10), .ref (mm 11), .ref (mm 12), .ref (mm 13), .int 0, .ref (mm 14), .ref (mm 15), .ref (mm 16), .ref (mm 17), .int 0, .int 0, .int 0, .ref (mm 18), .ref (mm 19), .int 0, .int 0, .ref (mm 20), .ref (mm 21), .ref (mm 22), .int 0, .int 0, .int 0, .int 0, .ref (mm 23), .ref (mm 24), .ref (mm 25), .int 0])), ((mm 1), .inl (E.2.2 0, 4, .inl wd))] 84 11441
    refine mp_run hF mp_tabL_ok [mp_i (.aload_n 2), mp_i (.aload_n 0), mp_i (.iload_n 3), mp_c (.iconst 1) 1, mp_i .iadd] (by decide +kernel) ?_
    intro z11 h12
    obtain rfl : z11 = 1 := h12.trans (by decide)
    show mp_W E X 4 1681 [(3, .int 0), (2, .ref q2), (1, .ref q1), (0, .ref b)] [.int 1, .ref b, .ref q2, .int (-2)] [(q2, .inr (10, [.int 0, .ref (mm 1), .ref (mm 2), .ref (mm 3), .ref (mm 4), .ref (mm 5), .int 0, .int 0, .int 0, .int 0, .int 0, .long 0, .int 0, .int 0, .int 0, .int (-1), .ref (mm 6), .ref (mm 7), .ref (mm 8), .ref (mm 9), .ref (mm 10), .ref (mm 11), .ref (mm 12), .ref (mm 13), .int 0, .ref (mm 14), .ref (mm 15), .ref (mm 16), .ref (mm 17), .int 0, .int 0, .int 0, .ref (mm 18), .ref (mm 19), .int 0, .int 0, .ref (mm 20), .ref (mm 21), .ref (mm 22), .int 0, .int 0, .int 0, .int 0, .ref (mm 23), .ref (mm 24), .ref (mm 25), .int 0])), ((mm 1), .inl (E.2.2 0, 4, .inl wd))] 84 11441
    refine mp_lsld hL 1 (by decide) (by decide) (by decide) (by decide +kernel) ?_
    show mp_W E X 4 1682 [(3, .int 0), (2, .ref q2), (1, .ref q1), (0, .ref b)] [.int (xs 1), .ref q2, .int (-2)] [(q2, .inr (10, [.int 0, .ref (mm 1), .ref (mm 2), .ref (mm 3), .ref (mm 4), .ref (mm 5), .int 0, .int 0, .int 0, .int 0, .int 0, .long 0, .int 0, .int 0, .int 0, .int (-1), .ref (mm 6), .ref (mm 7), .ref (mm 8), .ref (mm 9), .ref (mm 10), .ref (mm 11), .ref (mm 12), .ref (mm 13), .int 0, .ref (mm 14), .ref (mm 15), .ref (mm 16), .ref (mm 17), .int 0, .int 0, .int 0, .ref (mm 18), .ref (mm 19), .int 0, .int 0, .ref (mm 20), .ref (mm 21), .ref (mm 22), .int 0, .int 0, .int 0, .int 0, .ref (mm 23), .ref (mm 24), .ref (mm 25), .int 0])), ((mm 1), .inl (E.2.2 0, 4, .inl wd))] 84 11441
    refine mp_callV hF (As := [.int (xs 1)]) (rest := [.int (-2)]) (wr := []) (aX10_wins_149 E q2 (mm 1) (mm 2) (mm 3) (mm 4) (mm 5) (mm 6) (mm 7) (mm 8) (mm 9) (mm 10) (mm 11) (mm 12) (mm 13) (mm 14) (mm 15) (mm 16) (mm 17) (mm 18) (mm 19) (mm 20) (mm 21) (mm 22) (mm 23) (mm 24) (mm 25) wd (xs 1) hwd) mp_lkL_207 0 rfl [0, 1] [] rfl rfl rfl rfl rfl ⟨(Nat.le_of_ble_eq_true rfl), (Nat.le_of_ble_eq_true rfl), (Nat.le_of_ble_eq_true rfl), (Nat.le_of_ble_eq_true rfl)⟩ (Nat.le_of_ble_eq_true rfl) (by decide +kernel) (fun v13 w14 h15 => ?_)
    rcases h15 with ⟨rfl, c16, rfl⟩ | ⟨rfl, c17, c18, rfl⟩ | ⟨rfl, c19, c20, rfl⟩
    · skip
      have c16 : (xs 1).toInt < 0 := c16
      show mp_W E X 4 1685 [(3, .int 0), (2, .ref q2), (1, .ref q1), (0, .ref b)] [.int (-2), .int (-2)] [] 84 11441
      refine mp_run hF mp_tabL_ok [mp_h (.if_icmp .eq 534) [2219]] (by decide +kernel) ?_
      refine And.intro (fun _ => ?_) (fun c21 => absurd c21 (by decide))
      show mp_W E X 4 2219 [(3, .int 0), (2, .ref q2), (1, .ref q1), (0, .ref b)] [] [] 84 11441
      exact mp_sub [3, 0] rfl [] rfl rfl (mp_lw_next hL (Nat.le_of_ble_eq_true rfl) (Nat.le_of_ble_eq_true rfl))
    · skip
      have c17 : 0 ≤ (xs 1).toInt := c17
      have c18 : 3 < (xs 1).toInt := c18
      exfalso; omega
    · skip
      have c19 : 0 ≤ (xs 1).toInt := c19
      have c20 : (xs 1).toInt ≤ 3 := c20
      exfalso; omega
  · skip
    have c7 : 0 ≤ (xs 1).toInt := c7
    have c8 : 4 ≤ (xs 1).toInt := c8
    show mp_W E X 4 1676 [(3, .int 0), (2, .ref q2), (1, .ref q1), (0, .ref b)] [.int (-2)] [(q2, .inr (10, [.int 0, .ref (mm 1), .ref (mm 2), .ref (mm 3), .ref (mm 4), .ref (mm 5), .int 0, .int 0, .int 0, .int 0, .int 0, .long 0, .int 0, .int 0, .int 0, .int (-1), .ref (mm 6), .ref (mm 7), .ref (mm 8), .ref (mm 9), .ref (mm 10), .ref (mm 11), .ref (mm 12), .ref (mm 13), .int 0, .ref (mm 14), .ref (mm 15), .ref (mm 16), .ref (mm 17), .int 0, .int 0, .int 0, .ref (mm 18), .ref (mm 19), .int 0, .int 0, .ref (mm 20), .ref (mm 21), .ref (mm 22), .int 0, .int 0, .int 0, .int 0, .ref (mm 23), .ref (mm 24), .ref (mm 25), .int 0])), ((mm 1), .inl (E.2.2 0, 4, .inl wd))] 84 11441
    refine mp_run hF mp_tabL_ok [mp_i (.aload_n 2), mp_i (.aload_n 0), mp_i (.iload_n 3), mp_c (.iconst 1) 1, mp_i .iadd] (by decide +kernel) ?_
    intro z22 h23
    obtain rfl : z22 = 1 := h23.trans (by decide)
    show mp_W E X 4 1681 [(3, .int 0), (2, .ref q2), (1, .ref q1), (0, .ref b)] [.int 1, .ref b, .ref q2, .int (-2)] [(q2, .inr (10, [.int 0, .ref (mm 1), .ref (mm 2), .ref (mm 3), .ref (mm 4), .ref (mm 5), .int 0, .int 0, .int 0, .int 0, .int 0, .long 0, .int 0, .int 0, .int 0, .int (-1), .ref (mm 6), .ref (mm 7), .ref (mm 8), .ref (mm 9), .ref (mm 10), .ref (mm 11), .ref (mm 12), .ref (mm 13), .int 0, .ref (mm 14), .ref (mm 15), .ref (mm 16), .ref (mm 17), .int 0, .int 0, .int 0, .ref (mm 18), .ref (mm 19), .int 0, .int 0, .ref (mm 20), .ref (mm 21), .ref (mm 22), .int 0, .int 0, .int 0, .int 0, .ref (mm 23), .ref (mm 24), .ref (mm 25), .int 0])), ((mm 1), .inl (E.2.2 0, 4, .inl wd))] 84 11441
    refine mp_lsld hL 1 (by decide) (by decide) (by decide) (by decide +kernel) ?_
    show mp_W E X 4 1682 [(3, .int 0), (2, .ref q2), (1, .ref q1), (0, .ref b)] [.int (xs 1), .ref q2, .int (-2)] [(q2, .inr (10, [.int 0, .ref (mm 1), .ref (mm 2), .ref (mm 3), .ref (mm 4), .ref (mm 5), .int 0, .int 0, .int 0, .int 0, .int 0, .long 0, .int 0, .int 0, .int 0, .int (-1), .ref (mm 6), .ref (mm 7), .ref (mm 8), .ref (mm 9), .ref (mm 10), .ref (mm 11), .ref (mm 12), .ref (mm 13), .int 0, .ref (mm 14), .ref (mm 15), .ref (mm 16), .ref (mm 17), .int 0, .int 0, .int 0, .ref (mm 18), .ref (mm 19), .int 0, .int 0, .ref (mm 20), .ref (mm 21), .ref (mm 22), .int 0, .int 0, .int 0, .int 0, .ref (mm 23), .ref (mm 24), .ref (mm 25), .int 0])), ((mm 1), .inl (E.2.2 0, 4, .inl wd))] 84 11441
    refine mp_callV hF (As := [.int (xs 1)]) (rest := [.int (-2)]) (wr := []) (aX10_wins_149 E q2 (mm 1) (mm 2) (mm 3) (mm 4) (mm 5) (mm 6) (mm 7) (mm 8) (mm 9) (mm 10) (mm 11) (mm 12) (mm 13) (mm 14) (mm 15) (mm 16) (mm 17) (mm 18) (mm 19) (mm 20) (mm 21) (mm 22) (mm 23) (mm 24) (mm 25) wd (xs 1) hwd) mp_lkL_207 0 rfl [0, 1] [] rfl rfl rfl rfl rfl ⟨(Nat.le_of_ble_eq_true rfl), (Nat.le_of_ble_eq_true rfl), (Nat.le_of_ble_eq_true rfl), (Nat.le_of_ble_eq_true rfl)⟩ (Nat.le_of_ble_eq_true rfl) (by decide +kernel) (fun v24 w25 h26 => ?_)
    rcases h26 with ⟨rfl, c27, rfl⟩ | ⟨rfl, c28, c29, rfl⟩ | ⟨rfl, c30, c31, rfl⟩
    · skip
      have c27 : (xs 1).toInt < 0 := c27
      exfalso; omega
    · skip
      have c28 : 0 ≤ (xs 1).toInt := c28
      have c29 : 3 < (xs 1).toInt := c29
      show mp_W E X 4 1685 [(3, .int 0), (2, .ref q2), (1, .ref q1), (0, .ref b)] [.int (-2), .int (-2)] [] 84 11441
      refine mp_run hF mp_tabL_ok [mp_h (.if_icmp .eq 534) [2219]] (by decide +kernel) ?_
      refine And.intro (fun _ => ?_) (fun c32 => absurd c32 (by decide))
      show mp_W E X 4 2219 [(3, .int 0), (2, .ref q2), (1, .ref q1), (0, .ref b)] [] [] 84 11441
      exact mp_sub [3, 0] rfl [] rfl rfl (mp_lw_next hL (Nat.le_of_ble_eq_true rfl) (Nat.le_of_ble_eq_true rfl))
    · skip
      have c30 : 0 ≤ (xs 1).toInt := c30
      have c31 : (xs 1).toInt ≤ 3 := c31
      exfalso; omega
  · skip
    have c9 : 0 ≤ (xs 1).toInt := c9
    have c10 : (xs 1).toInt < 4 := c10
    show mp_W E X 4 1676 [(3, .int 0), (2, .ref q2), (1, .ref q1), (0, .ref b)] [.int (-6)] [(q2, .inr (10, [.int 0, .ref (mm 1), .ref (mm 2), .ref (mm 3), .ref (mm 4), .ref (mm 5), .int 0, .int 0, .int 0, .int 0, .int 0, .long 0, .int 0, .int 0, .int 0, .int (-1), .ref (mm 6), .ref (mm 7), .ref (mm 8), .ref (mm 9), .ref (mm 10), .ref (mm 11), .ref (mm 12), .ref (mm 13), .int 0, .ref (mm 14), .ref (mm 15), .ref (mm 16), .ref (mm 17), .int 0, .int 0, .int 0, .ref (mm 18), .ref (mm 19), .int 0, .int 0, .ref (mm 20), .ref (mm 21), .ref (mm 22), .int 0, .int 0, .int 0, .int 0, .ref (mm 23), .ref (mm 24), .ref (mm 25), .int 0])), ((mm 1), .inl (E.2.2 0, 4, .inl wd))] 84 11441
    refine mp_run hF mp_tabL_ok [mp_i (.aload_n 2), mp_i (.aload_n 0), mp_i (.iload_n 3), mp_c (.iconst 1) 1, mp_i .iadd] (by decide +kernel) ?_
    intro z33 h34
    obtain rfl : z33 = 1 := h34.trans (by decide)
    show mp_W E X 4 1681 [(3, .int 0), (2, .ref q2), (1, .ref q1), (0, .ref b)] [.int 1, .ref b, .ref q2, .int (-6)] [(q2, .inr (10, [.int 0, .ref (mm 1), .ref (mm 2), .ref (mm 3), .ref (mm 4), .ref (mm 5), .int 0, .int 0, .int 0, .int 0, .int 0, .long 0, .int 0, .int 0, .int 0, .int (-1), .ref (mm 6), .ref (mm 7), .ref (mm 8), .ref (mm 9), .ref (mm 10), .ref (mm 11), .ref (mm 12), .ref (mm 13), .int 0, .ref (mm 14), .ref (mm 15), .ref (mm 16), .ref (mm 17), .int 0, .int 0, .int 0, .ref (mm 18), .ref (mm 19), .int 0, .int 0, .ref (mm 20), .ref (mm 21), .ref (mm 22), .int 0, .int 0, .int 0, .int 0, .ref (mm 23), .ref (mm 24), .ref (mm 25), .int 0])), ((mm 1), .inl (E.2.2 0, 4, .inl wd))] 84 11441
    refine mp_lsld hL 1 (by decide) (by decide) (by decide) (by decide +kernel) ?_
    show mp_W E X 4 1682 [(3, .int 0), (2, .ref q2), (1, .ref q1), (0, .ref b)] [.int (xs 1), .ref q2, .int (-6)] [(q2, .inr (10, [.int 0, .ref (mm 1), .ref (mm 2), .ref (mm 3), .ref (mm 4), .ref (mm 5), .int 0, .int 0, .int 0, .int 0, .int 0, .long 0, .int 0, .int 0, .int 0, .int (-1), .ref (mm 6), .ref (mm 7), .ref (mm 8), .ref (mm 9), .ref (mm 10), .ref (mm 11), .ref (mm 12), .ref (mm 13), .int 0, .ref (mm 14), .ref (mm 15), .ref (mm 16), .ref (mm 17), .int 0, .int 0, .int 0, .ref (mm 18), .ref (mm 19), .int 0, .int 0, .ref (mm 20), .ref (mm 21), .ref (mm 22), .int 0, .int 0, .int 0, .int 0, .ref (mm 23), .ref (mm 24), .ref (mm 25), .int 0])), ((mm 1), .inl (E.2.2 0, 4, .inl wd))] 84 11441
    refine mp_callV hF (As := [.int (xs 1)]) (rest := [.int (-6)]) (wr := []) (aX10_wins_149 E q2 (mm 1) (mm 2) (mm 3) (mm 4) (mm 5) (mm 6) (mm 7) (mm 8) (mm 9) (mm 10) (mm 11) (mm 12) (mm 13) (mm 14) (mm 15) (mm 16) (mm 17) (mm 18) (mm 19) (mm 20) (mm 21) (mm 22) (mm 23) (mm 24) (mm 25) wd (xs 1) hwd) mp_lkL_207 0 rfl [0, 1] [] rfl rfl rfl rfl rfl ⟨(Nat.le_of_ble_eq_true rfl), (Nat.le_of_ble_eq_true rfl), (Nat.le_of_ble_eq_true rfl), (Nat.le_of_ble_eq_true rfl)⟩ (Nat.le_of_ble_eq_true rfl) (by decide +kernel) (fun v35 w36 h37 => ?_)
    rcases h37 with ⟨rfl, c38, rfl⟩ | ⟨rfl, c39, c40, rfl⟩ | ⟨rfl, c41, c42, rfl⟩
    · skip
      have c38 : (xs 1).toInt < 0 := c38
      exfalso; omega
    · skip
      have c39 : 0 ≤ (xs 1).toInt := c39
      have c40 : 3 < (xs 1).toInt := c40
      exfalso; omega
    · skip
      have c41 : 0 ≤ (xs 1).toInt := c41
      have c42 : (xs 1).toInt ≤ 3 := c42
      show mp_W E X 4 1685 [(3, .int 0), (2, .ref q2), (1, .ref q1), (0, .ref b)] [.int (-6), .int (-6)] [] 84 11441
      refine mp_run hF mp_tabL_ok [mp_h (.if_icmp .eq 534) [2219]] (by decide +kernel) ?_
      refine And.intro (fun _ => ?_) (fun c43 => absurd c43 (by decide))
      show mp_W E X 4 2219 [(3, .int 0), (2, .ref q2), (1, .ref q1), (0, .ref b)] [] [] 84 11441
      exact mp_sub [3, 0] rfl [] rfl rfl (mp_lw_next hL (Nat.le_of_ble_eq_true rfl) (Nat.le_of_ble_eq_true rfl))

set_option maxHeartbeats 4000000 in
set_option maxRecDepth 100000 in
theorem mp_case_47 {E : mp_E} {X : mp_X} {b : Nat} {xs : Nat → Int32} (hL : mp_Lw E X b 6 xs) (q1 q2 : Nat) (bb mm : Nat → Nat) (vs ln wd : Nat → Int32) (hln : ∀ j, j < 4 → ln j = -1) (hwd : ∀ j, j < 4 → wd j = -1) : mp_W E X 4 1690 [(3, .int 0), (2, .ref q2), (1, .ref q1), (0, .ref b)] [] (mp_w0 E q1 q2 bb mm vs ln wd) 84 11441 := by
  have hF : mp_F E X (RL, code, 4, (2048, 600000, 7302250, 84000), ret, false) := hL.1
  show mp_W E X 4 1690 [(3, .int 0), (2, .ref q2), (1, .ref q1), (0, .ref b)] [] (mp_w0 E q1 q2 bb mm vs ln wd) 84 11441
  refine mp_run hF mp_tabL_ok [mp_i (.aload_n 1), mp_i (.aload_n 0), mp_i (.iload_n 3), mp_c (.iconst 1) 1, mp_i .iadd] (by decide +kernel) ?_
  intro z1 h2
  obtain rfl : z1 = 1 := h2.trans (by decide)
  show mp_W E X 4 1695 [(3, .int 0), (2, .ref q2), (1, .ref q1), (0, .ref b)] [.int 1, .ref b, .ref q1] (mp_w0 E q1 q2 bb mm vs ln wd) 84 11441
  refine mp_lsld hL 1 (by decide) (by decide) (by decide) (by decide +kernel) ?_
  show mp_W E X 4 1696 [(3, .int 0), (2, .ref q2), (1, .ref q1), (0, .ref b)] [.int (xs 1), .ref q1] (mp_w0 E q1 q2 bb mm vs ln wd) 84 11441
  refine mp_callV hF (As := [.int (xs 1)]) (rest := []) (wr := [(q2, .inr (10, [.int 0, .ref (mm 1), .ref (mm 2), .ref (mm 3), .ref (mm 4), .ref (mm 5), .int 0, .int 0, .int 0, .int 0, .int 0, .long 0, .int 0, .int 0, .int 0, .int (-1), .ref (mm 6), .ref (mm 7), .ref (mm 8), .ref (mm 9), .ref (mm 10), .ref (mm 11), .ref (mm 12), .ref (mm 13), .int 0, .ref (mm 14), .ref (mm 15), .ref (mm 16), .ref (mm 17), .int 0, .int 0, .int 0, .ref (mm 18), .ref (mm 19), .int 0, .int 0, .ref (mm 20), .ref (mm 21), .ref (mm 22), .int 0, .int 0, .int 0, .int 0, .ref (mm 23), .ref (mm 24), .ref (mm 25), .int 0])), ((mm 1), .inl (E.2.2 0, 4, .inl wd))]) (aX9_turn_150 E q1 (bb 54) (bb 57) (bb 1) (bb 16) (bb 36) (bb 37) (bb 40) (bb 46) (bb 49) (bb 52) (bb 55) (bb 56) ln (xs 1) hln) mp_lkL_208 0 rfl [0, 54, 57] [58, 59] rfl rfl rfl rfl rfl ⟨(Nat.le_of_ble_eq_true rfl), (Nat.le_of_ble_eq_true rfl), (Nat.le_of_ble_eq_true rfl), (Nat.le_of_ble_eq_true rfl)⟩ (Nat.le_of_ble_eq_true rfl) (by decide +kernel) (fun v3 w4 h5 => ?_)
  rcases h5 with ⟨rfl, c6, rfl⟩ | ⟨rfl, c7, c8, rfl⟩ | ⟨rfl, c9, c10, rfl⟩
  · skip
    have c6 : (xs 1).toInt < 0 := c6
    show mp_W E X 4 1699 [(3, .int 0), (2, .ref q2), (1, .ref q1), (0, .ref b)] [.int (-2)] [(q2, .inr (10, [.int 0, .ref (mm 1), .ref (mm 2), .ref (mm 3), .ref (mm 4), .ref (mm 5), .int 0, .int 0, .int 0, .int 0, .int 0, .long 0, .int 0, .int 0, .int 0, .int (-1), .ref (mm 6), .ref (mm 7), .ref (mm 8), .ref (mm 9), .ref (mm 10), .ref (mm 11), .ref (mm 12), .ref (mm 13), .int 0, .ref (mm 14), .ref (mm 15), .ref (mm 16), .ref (mm 17), .int 0, .int 0, .int 0, .ref (mm 18), .ref (mm 19), .int 0, .int 0, .ref (mm 20), .ref (mm 21), .ref (mm 22), .int 0, .int 0, .int 0, .int 0, .ref (mm 23), .ref (mm 24), .ref (mm 25), .int 0])), ((mm 1), .inl (E.2.2 0, 4, .inl wd))] 84 11441
    refine mp_run hF mp_tabL_ok [mp_i (.aload_n 2), mp_i (.aload_n 0), mp_i (.iload_n 3), mp_c (.iconst 1) 1, mp_i .iadd] (by decide +kernel) ?_
    intro z11 h12
    obtain rfl : z11 = 1 := h12.trans (by decide)
    show mp_W E X 4 1704 [(3, .int 0), (2, .ref q2), (1, .ref q1), (0, .ref b)] [.int 1, .ref b, .ref q2, .int (-2)] [(q2, .inr (10, [.int 0, .ref (mm 1), .ref (mm 2), .ref (mm 3), .ref (mm 4), .ref (mm 5), .int 0, .int 0, .int 0, .int 0, .int 0, .long 0, .int 0, .int 0, .int 0, .int (-1), .ref (mm 6), .ref (mm 7), .ref (mm 8), .ref (mm 9), .ref (mm 10), .ref (mm 11), .ref (mm 12), .ref (mm 13), .int 0, .ref (mm 14), .ref (mm 15), .ref (mm 16), .ref (mm 17), .int 0, .int 0, .int 0, .ref (mm 18), .ref (mm 19), .int 0, .int 0, .ref (mm 20), .ref (mm 21), .ref (mm 22), .int 0, .int 0, .int 0, .int 0, .ref (mm 23), .ref (mm 24), .ref (mm 25), .int 0])), ((mm 1), .inl (E.2.2 0, 4, .inl wd))] 84 11441
    refine mp_lsld hL 1 (by decide) (by decide) (by decide) (by decide +kernel) ?_
    show mp_W E X 4 1705 [(3, .int 0), (2, .ref q2), (1, .ref q1), (0, .ref b)] [.int (xs 1), .ref q2, .int (-2)] [(q2, .inr (10, [.int 0, .ref (mm 1), .ref (mm 2), .ref (mm 3), .ref (mm 4), .ref (mm 5), .int 0, .int 0, .int 0, .int 0, .int 0, .long 0, .int 0, .int 0, .int 0, .int (-1), .ref (mm 6), .ref (mm 7), .ref (mm 8), .ref (mm 9), .ref (mm 10), .ref (mm 11), .ref (mm 12), .ref (mm 13), .int 0, .ref (mm 14), .ref (mm 15), .ref (mm 16), .ref (mm 17), .int 0, .int 0, .int 0, .ref (mm 18), .ref (mm 19), .int 0, .int 0, .ref (mm 20), .ref (mm 21), .ref (mm 22), .int 0, .int 0, .int 0, .int 0, .ref (mm 23), .ref (mm 24), .ref (mm 25), .int 0])), ((mm 1), .inl (E.2.2 0, 4, .inl wd))] 84 11441
    refine mp_callV hF (As := [.int (xs 1)]) (rest := [.int (-2)]) (wr := []) (aX10_turn_151 E q2 (mm 1) (mm 2) (mm 3) (mm 4) (mm 5) (mm 6) (mm 7) (mm 8) (mm 9) (mm 10) (mm 11) (mm 12) (mm 13) (mm 14) (mm 15) (mm 16) (mm 17) (mm 18) (mm 19) (mm 20) (mm 21) (mm 22) (mm 23) (mm 24) (mm 25) wd (xs 1) hwd) mp_lkL_211 0 rfl [0, 1] [] rfl rfl rfl rfl rfl ⟨(Nat.le_of_ble_eq_true rfl), (Nat.le_of_ble_eq_true rfl), (Nat.le_of_ble_eq_true rfl), (Nat.le_of_ble_eq_true rfl)⟩ (Nat.le_of_ble_eq_true rfl) (by decide +kernel) (fun v13 w14 h15 => ?_)
    rcases h15 with ⟨rfl, c16, rfl⟩ | ⟨rfl, c17, c18, rfl⟩ | ⟨rfl, c19, c20, rfl⟩
    · skip
      have c16 : (xs 1).toInt < 0 := c16
      show mp_W E X 4 1708 [(3, .int 0), (2, .ref q2), (1, .ref q1), (0, .ref b)] [.int (-2), .int (-2)] [] 84 11441
      refine mp_run hF mp_tabL_ok [mp_h (.if_icmp .eq 511) [2219]] (by decide +kernel) ?_
      refine And.intro (fun _ => ?_) (fun c21 => absurd c21 (by decide))
      show mp_W E X 4 2219 [(3, .int 0), (2, .ref q2), (1, .ref q1), (0, .ref b)] [] [] 84 11441
      exact mp_sub [3, 0] rfl [] rfl rfl (mp_lw_next hL (Nat.le_of_ble_eq_true rfl) (Nat.le_of_ble_eq_true rfl))
    · skip
      have c17 : 0 ≤ (xs 1).toInt := c17
      have c18 : 3 < (xs 1).toInt := c18
      exfalso; omega
    · skip
      have c19 : 0 ≤ (xs 1).toInt := c19
      have c20 : (xs 1).toInt ≤ 3 := c20
      exfalso; omega
  · skip
    have c7 : 0 ≤ (xs 1).toInt := c7
    have c8 : 4 ≤ (xs 1).toInt := c8
    show mp_W E X 4 1699 [(3, .int 0), (2, .ref q2), (1, .ref q1), (0, .ref b)] [.int (-2)] [(q2, .inr (10, [.int 0, .ref (mm 1), .ref (mm 2), .ref (mm 3), .ref (mm 4), .ref (mm 5), .int 0, .int 0, .int 0, .int 0, .int 0, .long 0, .int 0, .int 0, .int 0, .int (-1), .ref (mm 6), .ref (mm 7), .ref (mm 8), .ref (mm 9), .ref (mm 10), .ref (mm 11), .ref (mm 12), .ref (mm 13), .int 0, .ref (mm 14), .ref (mm 15), .ref (mm 16), .ref (mm 17), .int 0, .int 0, .int 0, .ref (mm 18), .ref (mm 19), .int 0, .int 0, .ref (mm 20), .ref (mm 21), .ref (mm 22), .int 0, .int 0, .int 0, .int 0, .ref (mm 23), .ref (mm 24), .ref (mm 25), .int 0])), ((mm 1), .inl (E.2.2 0, 4, .inl wd))] 84 11441
    refine mp_run hF mp_tabL_ok [mp_i (.aload_n 2), mp_i (.aload_n 0), mp_i (.iload_n 3), mp_c (.iconst 1) 1, mp_i .iadd] (by decide +kernel) ?_
    intro z22 h23
    obtain rfl : z22 = 1 := h23.trans (by decide)
    show mp_W E X 4 1704 [(3, .int 0), (2, .ref q2), (1, .ref q1), (0, .ref b)] [.int 1, .ref b, .ref q2, .int (-2)] [(q2, .inr (10, [.int 0, .ref (mm 1), .ref (mm 2), .ref (mm 3), .ref (mm 4), .ref (mm 5), .int 0, .int 0, .int 0, .int 0, .int 0, .long 0, .int 0, .int 0, .int 0, .int (-1), .ref (mm 6), .ref (mm 7), .ref (mm 8), .ref (mm 9), .ref (mm 10), .ref (mm 11), .ref (mm 12), .ref (mm 13), .int 0, .ref (mm 14), .ref (mm 15), .ref (mm 16), .ref (mm 17), .int 0, .int 0, .int 0, .ref (mm 18), .ref (mm 19), .int 0, .int 0, .ref (mm 20), .ref (mm 21), .ref (mm 22), .int 0, .int 0, .int 0, .int 0, .ref (mm 23), .ref (mm 24), .ref (mm 25), .int 0])), ((mm 1), .inl (E.2.2 0, 4, .inl wd))] 84 11441
    refine mp_lsld hL 1 (by decide) (by decide) (by decide) (by decide +kernel) ?_
    show mp_W E X 4 1705 [(3, .int 0), (2, .ref q2), (1, .ref q1), (0, .ref b)] [.int (xs 1), .ref q2, .int (-2)] [(q2, .inr (10, [.int 0, .ref (mm 1), .ref (mm 2), .ref (mm 3), .ref (mm 4), .ref (mm 5), .int 0, .int 0, .int 0, .int 0, .int 0, .long 0, .int 0, .int 0, .int 0, .int (-1), .ref (mm 6), .ref (mm 7), .ref (mm 8), .ref (mm 9), .ref (mm 10), .ref (mm 11), .ref (mm 12), .ref (mm 13), .int 0, .ref (mm 14), .ref (mm 15), .ref (mm 16), .ref (mm 17), .int 0, .int 0, .int 0, .ref (mm 18), .ref (mm 19), .int 0, .int 0, .ref (mm 20), .ref (mm 21), .ref (mm 22), .int 0, .int 0, .int 0, .int 0, .ref (mm 23), .ref (mm 24), .ref (mm 25), .int 0])), ((mm 1), .inl (E.2.2 0, 4, .inl wd))] 84 11441
    refine mp_callV hF (As := [.int (xs 1)]) (rest := [.int (-2)]) (wr := []) (aX10_turn_151 E q2 (mm 1) (mm 2) (mm 3) (mm 4) (mm 5) (mm 6) (mm 7) (mm 8) (mm 9) (mm 10) (mm 11) (mm 12) (mm 13) (mm 14) (mm 15) (mm 16) (mm 17) (mm 18) (mm 19) (mm 20) (mm 21) (mm 22) (mm 23) (mm 24) (mm 25) wd (xs 1) hwd) mp_lkL_211 0 rfl [0, 1] [] rfl rfl rfl rfl rfl ⟨(Nat.le_of_ble_eq_true rfl), (Nat.le_of_ble_eq_true rfl), (Nat.le_of_ble_eq_true rfl), (Nat.le_of_ble_eq_true rfl)⟩ (Nat.le_of_ble_eq_true rfl) (by decide +kernel) (fun v24 w25 h26 => ?_)
    rcases h26 with ⟨rfl, c27, rfl⟩ | ⟨rfl, c28, c29, rfl⟩ | ⟨rfl, c30, c31, rfl⟩
    · skip
      have c27 : (xs 1).toInt < 0 := c27
      exfalso; omega
    · skip
      have c28 : 0 ≤ (xs 1).toInt := c28
      have c29 : 3 < (xs 1).toInt := c29
      show mp_W E X 4 1708 [(3, .int 0), (2, .ref q2), (1, .ref q1), (0, .ref b)] [.int (-2), .int (-2)] [] 84 11441
      refine mp_run hF mp_tabL_ok [mp_h (.if_icmp .eq 511) [2219]] (by decide +kernel) ?_
      refine And.intro (fun _ => ?_) (fun c32 => absurd c32 (by decide))
      show mp_W E X 4 2219 [(3, .int 0), (2, .ref q2), (1, .ref q1), (0, .ref b)] [] [] 84 11441
      exact mp_sub [3, 0] rfl [] rfl rfl (mp_lw_next hL (Nat.le_of_ble_eq_true rfl) (Nat.le_of_ble_eq_true rfl))
    · skip
      have c30 : 0 ≤ (xs 1).toInt := c30
      have c31 : (xs 1).toInt ≤ 3 := c31
      exfalso; omega
  · skip
    have c9 : 0 ≤ (xs 1).toInt := c9
    have c10 : (xs 1).toInt < 4 := c10
    show mp_W E X 4 1699 [(3, .int 0), (2, .ref q2), (1, .ref q1), (0, .ref b)] [.int (-6)] [(q2, .inr (10, [.int 0, .ref (mm 1), .ref (mm 2), .ref (mm 3), .ref (mm 4), .ref (mm 5), .int 0, .int 0, .int 0, .int 0, .int 0, .long 0, .int 0, .int 0, .int 0, .int (-1), .ref (mm 6), .ref (mm 7), .ref (mm 8), .ref (mm 9), .ref (mm 10), .ref (mm 11), .ref (mm 12), .ref (mm 13), .int 0, .ref (mm 14), .ref (mm 15), .ref (mm 16), .ref (mm 17), .int 0, .int 0, .int 0, .ref (mm 18), .ref (mm 19), .int 0, .int 0, .ref (mm 20), .ref (mm 21), .ref (mm 22), .int 0, .int 0, .int 0, .int 0, .ref (mm 23), .ref (mm 24), .ref (mm 25), .int 0])), ((mm 1), .inl (E.2.2 0, 4, .inl wd))] 84 11441
    refine mp_run hF mp_tabL_ok [mp_i (.aload_n 2), mp_i (.aload_n 0), mp_i (.iload_n 3), mp_c (.iconst 1) 1, mp_i .iadd] (by decide +kernel) ?_
    intro z33 h34
    obtain rfl : z33 = 1 := h34.trans (by decide)
    show mp_W E X 4 1704 [(3, .int 0), (2, .ref q2), (1, .ref q1), (0, .ref b)] [.int 1, .ref b, .ref q2, .int (-6)] [(q2, .inr (10, [.int 0, .ref (mm 1), .ref (mm 2), .ref (mm 3), .ref (mm 4), .ref (mm 5), .int 0, .int 0, .int 0, .int 0, .int 0, .long 0, .int 0, .int 0, .int 0, .int (-1), .ref (mm 6), .ref (mm 7), .ref (mm 8), .ref (mm 9), .ref (mm 10), .ref (mm 11), .ref (mm 12), .ref (mm 13), .int 0, .ref (mm 14), .ref (mm 15), .ref (mm 16), .ref (mm 17), .int 0, .int 0, .int 0, .ref (mm 18), .ref (mm 19), .int 0, .int 0, .ref (mm 20), .ref (mm 21), .ref (mm 22), .int 0, .int 0, .int 0, .int 0, .ref (mm 23), .ref (mm 24), .ref (mm 25), .int 0])), ((mm 1), .inl (E.2.2 0, 4, .inl wd))] 84 11441
    refine mp_lsld hL 1 (by decide) (by decide) (by decide) (by decide +kernel) ?_
    show mp_W E X 4 1705 [(3, .int 0), (2, .ref q2), (1, .ref q1), (0, .ref b)] [.int (xs 1), .ref q2, .int (-6)] [(q2, .inr (10, [.int 0, .ref (mm 1), .ref (mm 2), .ref (mm 3), .ref (mm 4), .ref (mm 5), .int 0, .int 0, .int 0, .int 0, .int 0, .long 0, .int 0, .int 0, .int 0, .int (-1), .ref (mm 6), .ref (mm 7), .ref (mm 8), .ref (mm 9), .ref (mm 10), .ref (mm 11), .ref (mm 12), .ref (mm 13), .int 0, .ref (mm 14), .ref (mm 15), .ref (mm 16), .ref (mm 17), .int 0, .int 0, .int 0, .ref (mm 18), .ref (mm 19), .int 0, .int 0, .ref (mm 20), .ref (mm 21), .ref (mm 22), .int 0, .int 0, .int 0, .int 0, .ref (mm 23), .ref (mm 24), .ref (mm 25), .int 0])), ((mm 1), .inl (E.2.2 0, 4, .inl wd))] 84 11441
    refine mp_callV hF (As := [.int (xs 1)]) (rest := [.int (-6)]) (wr := []) (aX10_turn_151 E q2 (mm 1) (mm 2) (mm 3) (mm 4) (mm 5) (mm 6) (mm 7) (mm 8) (mm 9) (mm 10) (mm 11) (mm 12) (mm 13) (mm 14) (mm 15) (mm 16) (mm 17) (mm 18) (mm 19) (mm 20) (mm 21) (mm 22) (mm 23) (mm 24) (mm 25) wd (xs 1) hwd) mp_lkL_211 0 rfl [0, 1] [] rfl rfl rfl rfl rfl ⟨(Nat.le_of_ble_eq_true rfl), (Nat.le_of_ble_eq_true rfl), (Nat.le_of_ble_eq_true rfl), (Nat.le_of_ble_eq_true rfl)⟩ (Nat.le_of_ble_eq_true rfl) (by decide +kernel) (fun v35 w36 h37 => ?_)
    rcases h37 with ⟨rfl, c38, rfl⟩ | ⟨rfl, c39, c40, rfl⟩ | ⟨rfl, c41, c42, rfl⟩
    · skip
      have c38 : (xs 1).toInt < 0 := c38
      exfalso; omega
    · skip
      have c39 : 0 ≤ (xs 1).toInt := c39
      have c40 : 3 < (xs 1).toInt := c40
      exfalso; omega
    · skip
      have c41 : 0 ≤ (xs 1).toInt := c41
      have c42 : (xs 1).toInt ≤ 3 := c42
      show mp_W E X 4 1708 [(3, .int 0), (2, .ref q2), (1, .ref q1), (0, .ref b)] [.int (-6), .int (-6)] [] 84 11441
      refine mp_run hF mp_tabL_ok [mp_h (.if_icmp .eq 511) [2219]] (by decide +kernel) ?_
      refine And.intro (fun _ => ?_) (fun c43 => absurd c43 (by decide))
      show mp_W E X 4 2219 [(3, .int 0), (2, .ref q2), (1, .ref q1), (0, .ref b)] [] [] 84 11441
      exact mp_sub [3, 0] rfl [] rfl rfl (mp_lw_next hL (Nat.le_of_ble_eq_true rfl) (Nat.le_of_ble_eq_true rfl))

set_option maxHeartbeats 4000000 in
set_option maxRecDepth 100000 in
theorem mp_case_48 {E : mp_E} {X : mp_X} {b : Nat} {xs : Nat → Int32} (hL : mp_Lw E X b 6 xs) (q1 q2 : Nat) (bb mm : Nat → Nat) (vs ln wd : Nat → Int32) (hln : ∀ j, j < 4 → ln j = -1) (hwd : ∀ j, j < 4 → wd j = -1) : mp_W E X 4 1713 [(3, .int 0), (2, .ref q2), (1, .ref q1), (0, .ref b)] [] (mp_w0 E q1 q2 bb mm vs ln wd) 84 11441 := by
  have hF : mp_F E X (RL, code, 4, (2048, 600000, 7302250, 84000), ret, false) := hL.1
  show mp_W E X 4 1713 [(3, .int 0), (2, .ref q2), (1, .ref q1), (0, .ref b)] [] (mp_w0 E q1 q2 bb mm vs ln wd) 84 11441
  refine mp_run hF mp_tabL_ok [mp_i (.aload_n 1), mp_i (.aload_n 0), mp_i (.iload_n 3), mp_c (.iconst 1) 1, mp_i .iadd] (by decide +kernel) ?_
  intro z1 h2
  obtain rfl : z1 = 1 := h2.trans (by decide)
  show mp_W E X 4 1718 [(3, .int 0), (2, .ref q2), (1, .ref q1), (0, .ref b)] [.int 1, .ref b, .ref q1] (mp_w0 E q1 q2 bb mm vs ln wd) 84 11441
  refine mp_lsld hL 1 (by decide) (by decide) (by decide) (by decide +kernel) ?_
  show mp_W E X 4 1719 [(3, .int 0), (2, .ref q2), (1, .ref q1), (0, .ref b)] [.int (xs 1), .ref q1] (mp_w0 E q1 q2 bb mm vs ln wd) 84 11441
  refine mp_run hF mp_tabL_ok [mp_i (.aload_n 0), mp_i (.iload_n 3), mp_c (.iconst 2) 2, mp_i .iadd] (by decide +kernel) ?_
  intro z3 h4
  obtain rfl : z3 = 2 := h4.trans (by decide)
  show mp_W E X 4 1723 [(3, .int 0), (2, .ref q2), (1, .ref q1), (0, .ref b)] [.int 2, .ref b, .int (xs 1), .ref q1] (mp_w0 E q1 q2 bb mm vs ln wd) 84 11441
  refine mp_lsld hL 2 (by decide) (by decide) (by decide) (by decide +kernel) ?_
  show mp_W E X 4 1724 [(3, .int 0), (2, .ref q2), (1, .ref q1), (0, .ref b)] [.int (xs 2), .int (xs 1), .ref q1] (mp_w0 E q1 q2 bb mm vs ln wd) 84 11441
  refine mp_run hF mp_tabL_ok [mp_i (.aload_n 0), mp_i (.iload_n 3), mp_c (.iconst 3) 3, mp_i .iadd] (by decide +kernel) ?_
  intro z5 h6
  obtain rfl : z5 = 3 := h6.trans (by decide)
  show mp_W E X 4 1728 [(3, .int 0), (2, .ref q2), (1, .ref q1), (0, .ref b)] [.int 3, .ref b, .int (xs 2), .int (xs 1), .ref q1] (mp_w0 E q1 q2 bb mm vs ln wd) 84 11441
  refine mp_lsld hL 3 (by decide) (by decide) (by decide) (by decide +kernel) ?_
  show mp_W E X 4 1729 [(3, .int 0), (2, .ref q2), (1, .ref q1), (0, .ref b)] [.int (xs 3), .int (xs 2), .int (xs 1), .ref q1] (mp_w0 E q1 q2 bb mm vs ln wd) 84 11441
  refine mp_callV hF (As := [.int (xs 1), .int (xs 2), .int (xs 3)]) (rest := []) (wr := [(q2, .inr (10, [.int 0, .ref (mm 1), .ref (mm 2), .ref (mm 3), .ref (mm 4), .ref (mm 5), .int 0, .int 0, .int 0, .int 0, .int 0, .long 0, .int 0, .int 0, .int 0, .int (-1), .ref (mm 6), .ref (mm 7), .ref (mm 8), .ref (mm 9), .ref (mm 10), .ref (mm 11), .ref (mm 12), .ref (mm 13), .int 0, .ref (mm 14), .ref (mm 15), .ref (mm 16), .ref (mm 17), .int 0, .int 0, .int 0, .ref (mm 18), .ref (mm 19), .int 0, .int 0, .ref (mm 20), .ref (mm 21), .ref (mm 22), .int 0, .int 0, .int 0, .int 0, .ref (mm 23), .ref (mm 24), .ref (mm 25), .int 0])), ((mm 7), .inl (E.2.2 0, 25, .inl (fun _ => 0)))]) (aX9_drawn_153 E q1 (bb 16) (bb 17) (bb 1) (bb 36) (bb 37) (bb 40) (bb 46) (bb 49) (bb 52) (bb 54) (bb 30) (bb 31) (bb 32) (bb 33) (bb 34) (bb 35) (bb 18) (bb 19) (bb 20) (bb 21) (bb 22) (bb 23) (bb 24) (bb 25) (bb 26) (bb 27) (bb 28) (bb 29) (xs 1) (xs 2) (xs 3)) mp_lkL_212 0 rfl [0, 16, 17] [58, 65] rfl rfl rfl rfl rfl ⟨(Nat.le_of_ble_eq_true rfl), (Nat.le_of_ble_eq_true rfl), (Nat.le_of_ble_eq_true rfl), (Nat.le_of_ble_eq_true rfl)⟩ (Nat.le_of_ble_eq_true rfl) (by decide +kernel) (fun v7 w8 h9 => ?_)
  obtain ⟨rfl, rfl⟩ := h9
  show mp_W E X 4 1732 [(3, .int 0), (2, .ref q2), (1, .ref q1), (0, .ref b)] [.int (-2)] [(q2, .inr (10, [.int 0, .ref (mm 1), .ref (mm 2), .ref (mm 3), .ref (mm 4), .ref (mm 5), .int 0, .int 0, .int 0, .int 0, .int 0, .long 0, .int 0, .int 0, .int 0, .int (-1), .ref (mm 6), .ref (mm 7), .ref (mm 8), .ref (mm 9), .ref (mm 10), .ref (mm 11), .ref (mm 12), .ref (mm 13), .int 0, .ref (mm 14), .ref (mm 15), .ref (mm 16), .ref (mm 17), .int 0, .int 0, .int 0, .ref (mm 18), .ref (mm 19), .int 0, .int 0, .ref (mm 20), .ref (mm 21), .ref (mm 22), .int 0, .int 0, .int 0, .int 0, .ref (mm 23), .ref (mm 24), .ref (mm 25), .int 0])), ((mm 7), .inl (E.2.2 0, 25, .inl (fun _ => 0)))] 84 11441
  refine mp_run hF mp_tabL_ok [mp_i (.aload_n 2), mp_i (.aload_n 0), mp_i (.iload_n 3), mp_c (.iconst 1) 1, mp_i .iadd] (by decide +kernel) ?_
  intro z10 h11
  obtain rfl : z10 = 1 := h11.trans (by decide)
  show mp_W E X 4 1737 [(3, .int 0), (2, .ref q2), (1, .ref q1), (0, .ref b)] [.int 1, .ref b, .ref q2, .int (-2)] [(q2, .inr (10, [.int 0, .ref (mm 1), .ref (mm 2), .ref (mm 3), .ref (mm 4), .ref (mm 5), .int 0, .int 0, .int 0, .int 0, .int 0, .long 0, .int 0, .int 0, .int 0, .int (-1), .ref (mm 6), .ref (mm 7), .ref (mm 8), .ref (mm 9), .ref (mm 10), .ref (mm 11), .ref (mm 12), .ref (mm 13), .int 0, .ref (mm 14), .ref (mm 15), .ref (mm 16), .ref (mm 17), .int 0, .int 0, .int 0, .ref (mm 18), .ref (mm 19), .int 0, .int 0, .ref (mm 20), .ref (mm 21), .ref (mm 22), .int 0, .int 0, .int 0, .int 0, .ref (mm 23), .ref (mm 24), .ref (mm 25), .int 0])), ((mm 7), .inl (E.2.2 0, 25, .inl (fun _ => 0)))] 84 11441
  refine mp_lsld hL 1 (by decide) (by decide) (by decide) (by decide +kernel) ?_
  show mp_W E X 4 1738 [(3, .int 0), (2, .ref q2), (1, .ref q1), (0, .ref b)] [.int (xs 1), .ref q2, .int (-2)] [(q2, .inr (10, [.int 0, .ref (mm 1), .ref (mm 2), .ref (mm 3), .ref (mm 4), .ref (mm 5), .int 0, .int 0, .int 0, .int 0, .int 0, .long 0, .int 0, .int 0, .int 0, .int (-1), .ref (mm 6), .ref (mm 7), .ref (mm 8), .ref (mm 9), .ref (mm 10), .ref (mm 11), .ref (mm 12), .ref (mm 13), .int 0, .ref (mm 14), .ref (mm 15), .ref (mm 16), .ref (mm 17), .int 0, .int 0, .int 0, .ref (mm 18), .ref (mm 19), .int 0, .int 0, .ref (mm 20), .ref (mm 21), .ref (mm 22), .int 0, .int 0, .int 0, .int 0, .ref (mm 23), .ref (mm 24), .ref (mm 25), .int 0])), ((mm 7), .inl (E.2.2 0, 25, .inl (fun _ => 0)))] 84 11441
  refine mp_run hF mp_tabL_ok [mp_i (.aload_n 0), mp_i (.iload_n 3), mp_c (.iconst 2) 2, mp_i .iadd] (by decide +kernel) ?_
  intro z12 h13
  obtain rfl : z12 = 2 := h13.trans (by decide)
  show mp_W E X 4 1742 [(3, .int 0), (2, .ref q2), (1, .ref q1), (0, .ref b)] [.int 2, .ref b, .int (xs 1), .ref q2, .int (-2)] [(q2, .inr (10, [.int 0, .ref (mm 1), .ref (mm 2), .ref (mm 3), .ref (mm 4), .ref (mm 5), .int 0, .int 0, .int 0, .int 0, .int 0, .long 0, .int 0, .int 0, .int 0, .int (-1), .ref (mm 6), .ref (mm 7), .ref (mm 8), .ref (mm 9), .ref (mm 10), .ref (mm 11), .ref (mm 12), .ref (mm 13), .int 0, .ref (mm 14), .ref (mm 15), .ref (mm 16), .ref (mm 17), .int 0, .int 0, .int 0, .ref (mm 18), .ref (mm 19), .int 0, .int 0, .ref (mm 20), .ref (mm 21), .ref (mm 22), .int 0, .int 0, .int 0, .int 0, .ref (mm 23), .ref (mm 24), .ref (mm 25), .int 0])), ((mm 7), .inl (E.2.2 0, 25, .inl (fun _ => 0)))] 84 11441
  refine mp_lsld hL 2 (by decide) (by decide) (by decide) (by decide +kernel) ?_
  show mp_W E X 4 1743 [(3, .int 0), (2, .ref q2), (1, .ref q1), (0, .ref b)] [.int (xs 2), .int (xs 1), .ref q2, .int (-2)] [(q2, .inr (10, [.int 0, .ref (mm 1), .ref (mm 2), .ref (mm 3), .ref (mm 4), .ref (mm 5), .int 0, .int 0, .int 0, .int 0, .int 0, .long 0, .int 0, .int 0, .int 0, .int (-1), .ref (mm 6), .ref (mm 7), .ref (mm 8), .ref (mm 9), .ref (mm 10), .ref (mm 11), .ref (mm 12), .ref (mm 13), .int 0, .ref (mm 14), .ref (mm 15), .ref (mm 16), .ref (mm 17), .int 0, .int 0, .int 0, .ref (mm 18), .ref (mm 19), .int 0, .int 0, .ref (mm 20), .ref (mm 21), .ref (mm 22), .int 0, .int 0, .int 0, .int 0, .ref (mm 23), .ref (mm 24), .ref (mm 25), .int 0])), ((mm 7), .inl (E.2.2 0, 25, .inl (fun _ => 0)))] 84 11441
  refine mp_run hF mp_tabL_ok [mp_i (.aload_n 0), mp_i (.iload_n 3), mp_c (.iconst 3) 3, mp_i .iadd] (by decide +kernel) ?_
  intro z14 h15
  obtain rfl : z14 = 3 := h15.trans (by decide)
  show mp_W E X 4 1747 [(3, .int 0), (2, .ref q2), (1, .ref q1), (0, .ref b)] [.int 3, .ref b, .int (xs 2), .int (xs 1), .ref q2, .int (-2)] [(q2, .inr (10, [.int 0, .ref (mm 1), .ref (mm 2), .ref (mm 3), .ref (mm 4), .ref (mm 5), .int 0, .int 0, .int 0, .int 0, .int 0, .long 0, .int 0, .int 0, .int 0, .int (-1), .ref (mm 6), .ref (mm 7), .ref (mm 8), .ref (mm 9), .ref (mm 10), .ref (mm 11), .ref (mm 12), .ref (mm 13), .int 0, .ref (mm 14), .ref (mm 15), .ref (mm 16), .ref (mm 17), .int 0, .int 0, .int 0, .ref (mm 18), .ref (mm 19), .int 0, .int 0, .ref (mm 20), .ref (mm 21), .ref (mm 22), .int 0, .int 0, .int 0, .int 0, .ref (mm 23), .ref (mm 24), .ref (mm 25), .int 0])), ((mm 7), .inl (E.2.2 0, 25, .inl (fun _ => 0)))] 84 11441
  refine mp_lsld hL 3 (by decide) (by decide) (by decide) (by decide +kernel) ?_
  show mp_W E X 4 1748 [(3, .int 0), (2, .ref q2), (1, .ref q1), (0, .ref b)] [.int (xs 3), .int (xs 2), .int (xs 1), .ref q2, .int (-2)] [(q2, .inr (10, [.int 0, .ref (mm 1), .ref (mm 2), .ref (mm 3), .ref (mm 4), .ref (mm 5), .int 0, .int 0, .int 0, .int 0, .int 0, .long 0, .int 0, .int 0, .int 0, .int (-1), .ref (mm 6), .ref (mm 7), .ref (mm 8), .ref (mm 9), .ref (mm 10), .ref (mm 11), .ref (mm 12), .ref (mm 13), .int 0, .ref (mm 14), .ref (mm 15), .ref (mm 16), .ref (mm 17), .int 0, .int 0, .int 0, .ref (mm 18), .ref (mm 19), .int 0, .int 0, .ref (mm 20), .ref (mm 21), .ref (mm 22), .int 0, .int 0, .int 0, .int 0, .ref (mm 23), .ref (mm 24), .ref (mm 25), .int 0])), ((mm 7), .inl (E.2.2 0, 25, .inl (fun _ => 0)))] 84 11441
  refine mp_callV hF (As := [.int (xs 1), .int (xs 2), .int (xs 3)]) (rest := [.int (-2)]) (wr := []) (aX10_drawn_157 E q2 (mm 7) (mm 1) (mm 2) (mm 3) (mm 4) (mm 5) (mm 6) (mm 8) (mm 9) (mm 10) (mm 11) (mm 12) (mm 13) (mm 14) (mm 15) (mm 16) (mm 17) (mm 18) (mm 19) (mm 20) (mm 21) (mm 22) (mm 23) (mm 24) (mm 25) (xs 1) (xs 2) (xs 3)) mp_lkL_215 0 rfl [0, 1] [] rfl rfl rfl rfl rfl ⟨(Nat.le_of_ble_eq_true rfl), (Nat.le_of_ble_eq_true rfl), (Nat.le_of_ble_eq_true rfl), (Nat.le_of_ble_eq_true rfl)⟩ (Nat.le_of_ble_eq_true rfl) (by decide +kernel) (fun v16 w17 h18 => ?_)
  obtain ⟨rfl, rfl⟩ := h18
  show mp_W E X 4 1751 [(3, .int 0), (2, .ref q2), (1, .ref q1), (0, .ref b)] [.int (-2), .int (-2)] [] 84 11441
  refine mp_run hF mp_tabL_ok [mp_h (.if_icmp .eq 468) [2219]] (by decide +kernel) ?_
  refine And.intro (fun _ => ?_) (fun c19 => absurd c19 (by decide))
  show mp_W E X 4 2219 [(3, .int 0), (2, .ref q2), (1, .ref q1), (0, .ref b)] [] [] 84 11441
  exact mp_sub [3, 0] rfl [] rfl rfl (mp_lw_next hL (Nat.le_of_ble_eq_true rfl) (Nat.le_of_ble_eq_true rfl))

