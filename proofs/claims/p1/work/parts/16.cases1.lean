set_option maxHeartbeats 4000000 in
set_option maxRecDepth 100000 in
theorem mp_case_0 {E : mp_E} {X : mp_X} {b : Nat} {xs : Nat → Int32} (hL : mp_Lw E X b 6 xs) (q1 q2 : Nat) (bb mm : Nat → Nat) (vs ln wd : Nat → Int32) (hln : ∀ j, j < 4 → ln j = -1) (hwd : ∀ j, j < 4 → wd j = -1) : mp_W E X 4 288 [(3, .int 0), (2, .ref q2), (1, .ref q1), (0, .ref b)] [] (mp_w0 E q1 q2 bb mm vs ln wd) 84 11441 := by
  have hF : mp_F E X (RL, code, 4, (2048, 600000, 7302250, 84000), ret, false) := hL.1
  show mp_W E X 4 288 [(3, .int 0), (2, .ref q2), (1, .ref q1), (0, .ref b)] [] (mp_w0 E q1 q2 bb mm vs ln wd) 84 11441
  refine mp_run hF mp_tabL_ok [mp_i (.aload_n 1), mp_i (.aload_n 0), mp_i (.iload_n 3), mp_c (.iconst 1) 1, mp_i .iadd] (by decide +kernel) ?_
  intro z1 h2
  obtain rfl : z1 = 1 := h2.trans (by decide)
  show mp_W E X 4 293 [(3, .int 0), (2, .ref q2), (1, .ref q1), (0, .ref b)] [.int 1, .ref b, .ref q1] (mp_w0 E q1 q2 bb mm vs ln wd) 84 11441
  refine mp_lsld hL 1 (by decide) (by decide) (by decide) (by decide +kernel) ?_
  show mp_W E X 4 294 [(3, .int 0), (2, .ref q2), (1, .ref q1), (0, .ref b)] [.int (xs 1), .ref q1] (mp_w0 E q1 q2 bb mm vs ln wd) 84 11441
  refine mp_run hF mp_tabL_ok [mp_i (.aload_n 0), mp_i (.iload_n 3), mp_c (.iconst 2) 2, mp_i .iadd] (by decide +kernel) ?_
  intro z3 h4
  obtain rfl : z3 = 2 := h4.trans (by decide)
  show mp_W E X 4 298 [(3, .int 0), (2, .ref q2), (1, .ref q1), (0, .ref b)] [.int 2, .ref b, .int (xs 1), .ref q1] (mp_w0 E q1 q2 bb mm vs ln wd) 84 11441
  refine mp_lsld hL 2 (by decide) (by decide) (by decide) (by decide +kernel) ?_
  show mp_W E X 4 299 [(3, .int 0), (2, .ref q2), (1, .ref q1), (0, .ref b)] [.int (xs 2), .int (xs 1), .ref q1] (mp_w0 E q1 q2 bb mm vs ln wd) 84 11441
  refine mp_run hF mp_tabL_ok [mp_i (.aload_n 0), mp_i (.iload_n 3), mp_c (.iconst 3) 3, mp_i .iadd] (by decide +kernel) ?_
  intro z5 h6
  obtain rfl : z5 = 3 := h6.trans (by decide)
  show mp_W E X 4 303 [(3, .int 0), (2, .ref q2), (1, .ref q1), (0, .ref b)] [.int 3, .ref b, .int (xs 2), .int (xs 1), .ref q1] (mp_w0 E q1 q2 bb mm vs ln wd) 84 11441
  refine mp_lsld hL 3 (by decide) (by decide) (by decide) (by decide +kernel) ?_
  show mp_W E X 4 304 [(3, .int 0), (2, .ref q2), (1, .ref q1), (0, .ref b)] [.int (xs 3), .int (xs 2), .int (xs 1), .ref q1] (mp_w0 E q1 q2 bb mm vs ln wd) 84 11441
  refine mp_run hF mp_tabL_ok [mp_i (.aload_n 0), mp_i (.iload_n 3), mp_c (.iconst 4) 4, mp_i .iadd] (by decide +kernel) ?_
  intro z7 h8
  obtain rfl : z7 = 4 := h8.trans (by decide)
  show mp_W E X 4 308 [(3, .int 0), (2, .ref q2), (1, .ref q1), (0, .ref b)] [.int 4, .ref b, .int (xs 3), .int (xs 2), .int (xs 1), .ref q1] (mp_w0 E q1 q2 bb mm vs ln wd) 84 11441
  refine mp_lsld hL 4 (by decide) (by decide) (by decide) (by decide +kernel) ?_
  show mp_W E X 4 309 [(3, .int 0), (2, .ref q2), (1, .ref q1), (0, .ref b)] [.int (xs 4), .int (xs 3), .int (xs 2), .int (xs 1), .ref q1] (mp_w0 E q1 q2 bb mm vs ln wd) 84 11441
  refine mp_run hF mp_tabL_ok [mp_i (.aload_n 0), mp_i (.iload_n 3), mp_c (.iconst 5) 5, mp_i .iadd] (by decide +kernel) ?_
  intro z9 h10
  obtain rfl : z9 = 5 := h10.trans (by decide)
  show mp_W E X 4 313 [(3, .int 0), (2, .ref q2), (1, .ref q1), (0, .ref b)] [.int 5, .ref b, .int (xs 4), .int (xs 3), .int (xs 2), .int (xs 1), .ref q1] (mp_w0 E q1 q2 bb mm vs ln wd) 84 11441
  refine mp_lsld hL 5 (by decide) (by decide) (by decide) (by decide +kernel) ?_
  show mp_W E X 4 314 [(3, .int 0), (2, .ref q2), (1, .ref q1), (0, .ref b)] [.int (xs 5), .int (xs 4), .int (xs 3), .int (xs 2), .int (xs 1), .ref q1] (mp_w0 E q1 q2 bb mm vs ln wd) 84 11441
  refine mp_callV hF (As := [.int (xs 1), .int (xs 2), .int (xs 3), .int (xs 4), .int (xs 5)]) (rest := []) (wr := [(q2, .inr (10, [.int 0, .ref (mm 1), .ref (mm 2), .ref (mm 3), .ref (mm 4), .ref (mm 5), .int 0, .int 0, .int 0, .int 0, .int 0, .long 0, .int 0, .int 0, .int 0, .int (-1), .ref (mm 6), .ref (mm 7), .ref (mm 8), .ref (mm 9), .ref (mm 10), .ref (mm 11), .ref (mm 12), .ref (mm 13), .int 0, .ref (mm 14), .ref (mm 15), .ref (mm 16), .ref (mm 17), .int 0, .int 0, .int 0, .ref (mm 18), .ref (mm 19), .int 0, .int 0, .ref (mm 20), .ref (mm 21), .ref (mm 22), .int 0, .int 0, .int 0, .int 0, .ref (mm 23), .ref (mm 24), .ref (mm 25), .int 0])), ((mm 5), .inl (E.2.2 1, 1600, .inl (fun _ => 0)))]) (aX9_feed_5 E q1 (bb 1) (bb 2) (bb 16) (bb 36) (bb 37) (bb 40) (bb 46) (bb 49) (bb 52) (bb 54) (bb 3) (xs 1) (xs 2) (xs 3) (xs 4) (xs 5)) mp_lkL_13 0 rfl [0, 1, 2] [58, 63] rfl rfl rfl rfl rfl ⟨(Nat.le_of_ble_eq_true rfl), (Nat.le_of_ble_eq_true rfl), (Nat.le_of_ble_eq_true rfl), (Nat.le_of_ble_eq_true rfl)⟩ (Nat.le_of_ble_eq_true rfl) (by decide +kernel) (fun v11 w12 h13 => ?_)
  obtain ⟨rfl, rfl⟩ := h13
  show mp_W E X 4 317 [(3, .int 0), (2, .ref q2), (1, .ref q1), (0, .ref b)] [.int 20] [(q2, .inr (10, [.int 0, .ref (mm 1), .ref (mm 2), .ref (mm 3), .ref (mm 4), .ref (mm 5), .int 0, .int 0, .int 0, .int 0, .int 0, .long 0, .int 0, .int 0, .int 0, .int (-1), .ref (mm 6), .ref (mm 7), .ref (mm 8), .ref (mm 9), .ref (mm 10), .ref (mm 11), .ref (mm 12), .ref (mm 13), .int 0, .ref (mm 14), .ref (mm 15), .ref (mm 16), .ref (mm 17), .int 0, .int 0, .int 0, .ref (mm 18), .ref (mm 19), .int 0, .int 0, .ref (mm 20), .ref (mm 21), .ref (mm 22), .int 0, .int 0, .int 0, .int 0, .ref (mm 23), .ref (mm 24), .ref (mm 25), .int 0])), ((mm 5), .inl (E.2.2 1, 1600, .inl (fun _ => 0)))] 84 11441
  refine mp_run hF mp_tabL_ok [mp_i (.aload_n 2), mp_i (.aload_n 0), mp_i (.iload_n 3), mp_c (.iconst 1) 1, mp_i .iadd] (by decide +kernel) ?_
  intro z14 h15
  obtain rfl : z14 = 1 := h15.trans (by decide)
  show mp_W E X 4 322 [(3, .int 0), (2, .ref q2), (1, .ref q1), (0, .ref b)] [.int 1, .ref b, .ref q2, .int 20] [(q2, .inr (10, [.int 0, .ref (mm 1), .ref (mm 2), .ref (mm 3), .ref (mm 4), .ref (mm 5), .int 0, .int 0, .int 0, .int 0, .int 0, .long 0, .int 0, .int 0, .int 0, .int (-1), .ref (mm 6), .ref (mm 7), .ref (mm 8), .ref (mm 9), .ref (mm 10), .ref (mm 11), .ref (mm 12), .ref (mm 13), .int 0, .ref (mm 14), .ref (mm 15), .ref (mm 16), .ref (mm 17), .int 0, .int 0, .int 0, .ref (mm 18), .ref (mm 19), .int 0, .int 0, .ref (mm 20), .ref (mm 21), .ref (mm 22), .int 0, .int 0, .int 0, .int 0, .ref (mm 23), .ref (mm 24), .ref (mm 25), .int 0])), ((mm 5), .inl (E.2.2 1, 1600, .inl (fun _ => 0)))] 84 11441
  refine mp_lsld hL 1 (by decide) (by decide) (by decide) (by decide +kernel) ?_
  show mp_W E X 4 323 [(3, .int 0), (2, .ref q2), (1, .ref q1), (0, .ref b)] [.int (xs 1), .ref q2, .int 20] [(q2, .inr (10, [.int 0, .ref (mm 1), .ref (mm 2), .ref (mm 3), .ref (mm 4), .ref (mm 5), .int 0, .int 0, .int 0, .int 0, .int 0, .long 0, .int 0, .int 0, .int 0, .int (-1), .ref (mm 6), .ref (mm 7), .ref (mm 8), .ref (mm 9), .ref (mm 10), .ref (mm 11), .ref (mm 12), .ref (mm 13), .int 0, .ref (mm 14), .ref (mm 15), .ref (mm 16), .ref (mm 17), .int 0, .int 0, .int 0, .ref (mm 18), .ref (mm 19), .int 0, .int 0, .ref (mm 20), .ref (mm 21), .ref (mm 22), .int 0, .int 0, .int 0, .int 0, .ref (mm 23), .ref (mm 24), .ref (mm 25), .int 0])), ((mm 5), .inl (E.2.2 1, 1600, .inl (fun _ => 0)))] 84 11441
  refine mp_run hF mp_tabL_ok [mp_i (.aload_n 0), mp_i (.iload_n 3), mp_c (.iconst 2) 2, mp_i .iadd] (by decide +kernel) ?_
  intro z16 h17
  obtain rfl : z16 = 2 := h17.trans (by decide)
  show mp_W E X 4 327 [(3, .int 0), (2, .ref q2), (1, .ref q1), (0, .ref b)] [.int 2, .ref b, .int (xs 1), .ref q2, .int 20] [(q2, .inr (10, [.int 0, .ref (mm 1), .ref (mm 2), .ref (mm 3), .ref (mm 4), .ref (mm 5), .int 0, .int 0, .int 0, .int 0, .int 0, .long 0, .int 0, .int 0, .int 0, .int (-1), .ref (mm 6), .ref (mm 7), .ref (mm 8), .ref (mm 9), .ref (mm 10), .ref (mm 11), .ref (mm 12), .ref (mm 13), .int 0, .ref (mm 14), .ref (mm 15), .ref (mm 16), .ref (mm 17), .int 0, .int 0, .int 0, .ref (mm 18), .ref (mm 19), .int 0, .int 0, .ref (mm 20), .ref (mm 21), .ref (mm 22), .int 0, .int 0, .int 0, .int 0, .ref (mm 23), .ref (mm 24), .ref (mm 25), .int 0])), ((mm 5), .inl (E.2.2 1, 1600, .inl (fun _ => 0)))] 84 11441
  refine mp_lsld hL 2 (by decide) (by decide) (by decide) (by decide +kernel) ?_
  show mp_W E X 4 328 [(3, .int 0), (2, .ref q2), (1, .ref q1), (0, .ref b)] [.int (xs 2), .int (xs 1), .ref q2, .int 20] [(q2, .inr (10, [.int 0, .ref (mm 1), .ref (mm 2), .ref (mm 3), .ref (mm 4), .ref (mm 5), .int 0, .int 0, .int 0, .int 0, .int 0, .long 0, .int 0, .int 0, .int 0, .int (-1), .ref (mm 6), .ref (mm 7), .ref (mm 8), .ref (mm 9), .ref (mm 10), .ref (mm 11), .ref (mm 12), .ref (mm 13), .int 0, .ref (mm 14), .ref (mm 15), .ref (mm 16), .ref (mm 17), .int 0, .int 0, .int 0, .ref (mm 18), .ref (mm 19), .int 0, .int 0, .ref (mm 20), .ref (mm 21), .ref (mm 22), .int 0, .int 0, .int 0, .int 0, .ref (mm 23), .ref (mm 24), .ref (mm 25), .int 0])), ((mm 5), .inl (E.2.2 1, 1600, .inl (fun _ => 0)))] 84 11441
  refine mp_run hF mp_tabL_ok [mp_i (.aload_n 0), mp_i (.iload_n 3), mp_c (.iconst 3) 3, mp_i .iadd] (by decide +kernel) ?_
  intro z18 h19
  obtain rfl : z18 = 3 := h19.trans (by decide)
  show mp_W E X 4 332 [(3, .int 0), (2, .ref q2), (1, .ref q1), (0, .ref b)] [.int 3, .ref b, .int (xs 2), .int (xs 1), .ref q2, .int 20] [(q2, .inr (10, [.int 0, .ref (mm 1), .ref (mm 2), .ref (mm 3), .ref (mm 4), .ref (mm 5), .int 0, .int 0, .int 0, .int 0, .int 0, .long 0, .int 0, .int 0, .int 0, .int (-1), .ref (mm 6), .ref (mm 7), .ref (mm 8), .ref (mm 9), .ref (mm 10), .ref (mm 11), .ref (mm 12), .ref (mm 13), .int 0, .ref (mm 14), .ref (mm 15), .ref (mm 16), .ref (mm 17), .int 0, .int 0, .int 0, .ref (mm 18), .ref (mm 19), .int 0, .int 0, .ref (mm 20), .ref (mm 21), .ref (mm 22), .int 0, .int 0, .int 0, .int 0, .ref (mm 23), .ref (mm 24), .ref (mm 25), .int 0])), ((mm 5), .inl (E.2.2 1, 1600, .inl (fun _ => 0)))] 84 11441
  refine mp_lsld hL 3 (by decide) (by decide) (by decide) (by decide +kernel) ?_
  show mp_W E X 4 333 [(3, .int 0), (2, .ref q2), (1, .ref q1), (0, .ref b)] [.int (xs 3), .int (xs 2), .int (xs 1), .ref q2, .int 20] [(q2, .inr (10, [.int 0, .ref (mm 1), .ref (mm 2), .ref (mm 3), .ref (mm 4), .ref (mm 5), .int 0, .int 0, .int 0, .int 0, .int 0, .long 0, .int 0, .int 0, .int 0, .int (-1), .ref (mm 6), .ref (mm 7), .ref (mm 8), .ref (mm 9), .ref (mm 10), .ref (mm 11), .ref (mm 12), .ref (mm 13), .int 0, .ref (mm 14), .ref (mm 15), .ref (mm 16), .ref (mm 17), .int 0, .int 0, .int 0, .ref (mm 18), .ref (mm 19), .int 0, .int 0, .ref (mm 20), .ref (mm 21), .ref (mm 22), .int 0, .int 0, .int 0, .int 0, .ref (mm 23), .ref (mm 24), .ref (mm 25), .int 0])), ((mm 5), .inl (E.2.2 1, 1600, .inl (fun _ => 0)))] 84 11441
  refine mp_run hF mp_tabL_ok [mp_i (.aload_n 0), mp_i (.iload_n 3), mp_c (.iconst 4) 4, mp_i .iadd] (by decide +kernel) ?_
  intro z20 h21
  obtain rfl : z20 = 4 := h21.trans (by decide)
  show mp_W E X 4 337 [(3, .int 0), (2, .ref q2), (1, .ref q1), (0, .ref b)] [.int 4, .ref b, .int (xs 3), .int (xs 2), .int (xs 1), .ref q2, .int 20] [(q2, .inr (10, [.int 0, .ref (mm 1), .ref (mm 2), .ref (mm 3), .ref (mm 4), .ref (mm 5), .int 0, .int 0, .int 0, .int 0, .int 0, .long 0, .int 0, .int 0, .int 0, .int (-1), .ref (mm 6), .ref (mm 7), .ref (mm 8), .ref (mm 9), .ref (mm 10), .ref (mm 11), .ref (mm 12), .ref (mm 13), .int 0, .ref (mm 14), .ref (mm 15), .ref (mm 16), .ref (mm 17), .int 0, .int 0, .int 0, .ref (mm 18), .ref (mm 19), .int 0, .int 0, .ref (mm 20), .ref (mm 21), .ref (mm 22), .int 0, .int 0, .int 0, .int 0, .ref (mm 23), .ref (mm 24), .ref (mm 25), .int 0])), ((mm 5), .inl (E.2.2 1, 1600, .inl (fun _ => 0)))] 84 11441
  refine mp_lsld hL 4 (by decide) (by decide) (by decide) (by decide +kernel) ?_
  show mp_W E X 4 338 [(3, .int 0), (2, .ref q2), (1, .ref q1), (0, .ref b)] [.int (xs 4), .int (xs 3), .int (xs 2), .int (xs 1), .ref q2, .int 20] [(q2, .inr (10, [.int 0, .ref (mm 1), .ref (mm 2), .ref (mm 3), .ref (mm 4), .ref (mm 5), .int 0, .int 0, .int 0, .int 0, .int 0, .long 0, .int 0, .int 0, .int 0, .int (-1), .ref (mm 6), .ref (mm 7), .ref (mm 8), .ref (mm 9), .ref (mm 10), .ref (mm 11), .ref (mm 12), .ref (mm 13), .int 0, .ref (mm 14), .ref (mm 15), .ref (mm 16), .ref (mm 17), .int 0, .int 0, .int 0, .ref (mm 18), .ref (mm 19), .int 0, .int 0, .ref (mm 20), .ref (mm 21), .ref (mm 22), .int 0, .int 0, .int 0, .int 0, .ref (mm 23), .ref (mm 24), .ref (mm 25), .int 0])), ((mm 5), .inl (E.2.2 1, 1600, .inl (fun _ => 0)))] 84 11441
  refine mp_run hF mp_tabL_ok [mp_i (.aload_n 0), mp_i (.iload_n 3), mp_c (.iconst 5) 5, mp_i .iadd] (by decide +kernel) ?_
  intro z22 h23
  obtain rfl : z22 = 5 := h23.trans (by decide)
  show mp_W E X 4 342 [(3, .int 0), (2, .ref q2), (1, .ref q1), (0, .ref b)] [.int 5, .ref b, .int (xs 4), .int (xs 3), .int (xs 2), .int (xs 1), .ref q2, .int 20] [(q2, .inr (10, [.int 0, .ref (mm 1), .ref (mm 2), .ref (mm 3), .ref (mm 4), .ref (mm 5), .int 0, .int 0, .int 0, .int 0, .int 0, .long 0, .int 0, .int 0, .int 0, .int (-1), .ref (mm 6), .ref (mm 7), .ref (mm 8), .ref (mm 9), .ref (mm 10), .ref (mm 11), .ref (mm 12), .ref (mm 13), .int 0, .ref (mm 14), .ref (mm 15), .ref (mm 16), .ref (mm 17), .int 0, .int 0, .int 0, .ref (mm 18), .ref (mm 19), .int 0, .int 0, .ref (mm 20), .ref (mm 21), .ref (mm 22), .int 0, .int 0, .int 0, .int 0, .ref (mm 23), .ref (mm 24), .ref (mm 25), .int 0])), ((mm 5), .inl (E.2.2 1, 1600, .inl (fun _ => 0)))] 84 11441
  refine mp_lsld hL 5 (by decide) (by decide) (by decide) (by decide +kernel) ?_
  show mp_W E X 4 343 [(3, .int 0), (2, .ref q2), (1, .ref q1), (0, .ref b)] [.int (xs 5), .int (xs 4), .int (xs 3), .int (xs 2), .int (xs 1), .ref q2, .int 20] [(q2, .inr (10, [.int 0, .ref (mm 1), .ref (mm 2), .ref (mm 3), .ref (mm 4), .ref (mm 5), .int 0, .int 0, .int 0, .int 0, .int 0, .long 0, .int 0, .int 0, .int 0, .int (-1), .ref (mm 6), .ref (mm 7), .ref (mm 8), .ref (mm 9), .ref (mm 10), .ref (mm 11), .ref (mm 12), .ref (mm 13), .int 0, .ref (mm 14), .ref (mm 15), .ref (mm 16), .ref (mm 17), .int 0, .int 0, .int 0, .ref (mm 18), .ref (mm 19), .int 0, .int 0, .ref (mm 20), .ref (mm 21), .ref (mm 22), .int 0, .int 0, .int 0, .int 0, .ref (mm 23), .ref (mm 24), .ref (mm 25), .int 0])), ((mm 5), .inl (E.2.2 1, 1600, .inl (fun _ => 0)))] 84 11441
  refine mp_callV hF (As := [.int (xs 1), .int (xs 2), .int (xs 3), .int (xs 4), .int (xs 5)]) (rest := [.int 20]) (wr := []) (aX10_feed_11 E q2 (mm 5) (mm 1) (mm 2) (mm 3) (mm 4) (mm 6) (mm 7) (mm 8) (mm 9) (mm 10) (mm 11) (mm 12) (mm 13) (mm 14) (mm 15) (mm 16) (mm 17) (mm 18) (mm 19) (mm 20) (mm 21) (mm 22) (mm 23) (mm 24) (mm 25) (xs 1) (xs 2) (xs 3) (xs 4) (xs 5)) mp_lkL_17 0 rfl [0, 1] [] rfl rfl rfl rfl rfl ⟨(Nat.le_of_ble_eq_true rfl), (Nat.le_of_ble_eq_true rfl), (Nat.le_of_ble_eq_true rfl), (Nat.le_of_ble_eq_true rfl)⟩ (Nat.le_of_ble_eq_true rfl) (by decide +kernel) (fun v24 w25 h26 => ?_)
  obtain ⟨rfl, rfl⟩ := h26
  show mp_W E X 4 346 [(3, .int 0), (2, .ref q2), (1, .ref q1), (0, .ref b)] [.int 20, .int 20] [] 84 11441
  refine mp_run hF mp_tabL_ok [mp_h (.if_icmp .eq 1873) [2219]] (by decide +kernel) ?_
  refine And.intro (fun _ => ?_) (fun c27 => absurd c27 (by decide))
  show mp_W E X 4 2219 [(3, .int 0), (2, .ref q2), (1, .ref q1), (0, .ref b)] [] [] 84 11441
  exact mp_sub [3, 0] rfl [] rfl rfl (mp_lw_next hL (Nat.le_of_ble_eq_true rfl) (Nat.le_of_ble_eq_true rfl))

set_option maxHeartbeats 4000000 in
set_option maxRecDepth 100000 in
theorem mp_case_1 {E : mp_E} {X : mp_X} {b : Nat} {xs : Nat → Int32} (hL : mp_Lw E X b 6 xs) (q1 q2 : Nat) (bb mm : Nat → Nat) (vs ln wd : Nat → Int32) (hln : ∀ j, j < 4 → ln j = -1) (hwd : ∀ j, j < 4 → wd j = -1) : mp_W E X 4 351 [(3, .int 0), (2, .ref q2), (1, .ref q1), (0, .ref b)] [] (mp_w0 E q1 q2 bb mm vs ln wd) 84 11441 := by
  have hF : mp_F E X (RL, code, 4, (2048, 600000, 7302250, 84000), ret, false) := hL.1
  show mp_W E X 4 351 [(3, .int 0), (2, .ref q2), (1, .ref q1), (0, .ref b)] [] (mp_w0 E q1 q2 bb mm vs ln wd) 84 11441
  refine mp_run hF mp_tabL_ok [mp_i (.aload_n 1), mp_i (.aload_n 0), mp_i (.iload_n 3), mp_c (.iconst 1) 1, mp_i .iadd] (by decide +kernel) ?_
  intro z1 h2
  obtain rfl : z1 = 1 := h2.trans (by decide)
  show mp_W E X 4 356 [(3, .int 0), (2, .ref q2), (1, .ref q1), (0, .ref b)] [.int 1, .ref b, .ref q1] (mp_w0 E q1 q2 bb mm vs ln wd) 84 11441
  refine mp_lsld hL 1 (by decide) (by decide) (by decide) (by decide +kernel) ?_
  show mp_W E X 4 357 [(3, .int 0), (2, .ref q2), (1, .ref q1), (0, .ref b)] [.int (xs 1), .ref q1] (mp_w0 E q1 q2 bb mm vs ln wd) 84 11441
  refine mp_callV hF (As := [.int (xs 1)]) (rest := []) (wr := [(q2, .inr (10, [.int 0, .ref (mm 1), .ref (mm 2), .ref (mm 3), .ref (mm 4), .ref (mm 5), .int 0, .int 0, .int 0, .int 0, .int 0, .long 0, .int 0, .int 0, .int 0, .int (-1), .ref (mm 6), .ref (mm 7), .ref (mm 8), .ref (mm 9), .ref (mm 10), .ref (mm 11), .ref (mm 12), .ref (mm 13), .int 0, .ref (mm 14), .ref (mm 15), .ref (mm 16), .ref (mm 17), .int 0, .int 0, .int 0, .ref (mm 18), .ref (mm 19), .int 0, .int 0, .ref (mm 20), .ref (mm 21), .ref (mm 22), .int 0, .int 0, .int 0, .int 0, .ref (mm 23), .ref (mm 24), .ref (mm 25), .int 0]))]) (aX9_end_12 E q1 (bb 1) (bb 16) (bb 36) (bb 37) (bb 40) (bb 46) (bb 49) (bb 52) (bb 54) (bb 2) (bb 3) (xs 1)) mp_lkL_18 0 rfl [0, 1] [58] rfl rfl rfl rfl rfl ⟨(Nat.le_of_ble_eq_true rfl), (Nat.le_of_ble_eq_true rfl), (Nat.le_of_ble_eq_true rfl), (Nat.le_of_ble_eq_true rfl)⟩ (Nat.le_of_ble_eq_true rfl) (by decide +kernel) (fun v3 w4 h5 => ?_)
  rcases h5 with ⟨rfl, c6, rfl⟩ | ⟨rfl, c7, c8, rfl⟩ | ⟨rfl, c9, c10, rfl⟩
  · skip
    have c6 : (xs 1).toInt < 0 := c6
    show mp_W E X 4 360 [(3, .int 0), (2, .ref q2), (1, .ref q1), (0, .ref b)] [.int (-1)] [(q2, .inr (10, [.int 0, .ref (mm 1), .ref (mm 2), .ref (mm 3), .ref (mm 4), .ref (mm 5), .int 0, .int 0, .int 0, .int 0, .int 0, .long 0, .int 0, .int 0, .int 0, .int (-1), .ref (mm 6), .ref (mm 7), .ref (mm 8), .ref (mm 9), .ref (mm 10), .ref (mm 11), .ref (mm 12), .ref (mm 13), .int 0, .ref (mm 14), .ref (mm 15), .ref (mm 16), .ref (mm 17), .int 0, .int 0, .int 0, .ref (mm 18), .ref (mm 19), .int 0, .int 0, .ref (mm 20), .ref (mm 21), .ref (mm 22), .int 0, .int 0, .int 0, .int 0, .ref (mm 23), .ref (mm 24), .ref (mm 25), .int 0]))] 84 11441
    refine mp_run hF mp_tabL_ok [mp_i (.aload_n 2), mp_i (.aload_n 0), mp_i (.iload_n 3), mp_c (.iconst 1) 1, mp_i .iadd] (by decide +kernel) ?_
    intro z11 h12
    obtain rfl : z11 = 1 := h12.trans (by decide)
    show mp_W E X 4 365 [(3, .int 0), (2, .ref q2), (1, .ref q1), (0, .ref b)] [.int 1, .ref b, .ref q2, .int (-1)] [(q2, .inr (10, [.int 0, .ref (mm 1), .ref (mm 2), .ref (mm 3), .ref (mm 4), .ref (mm 5), .int 0, .int 0, .int 0, .int 0, .int 0, .long 0, .int 0, .int 0, .int 0, .int (-1), .ref (mm 6), .ref (mm 7), .ref (mm 8), .ref (mm 9), .ref (mm 10), .ref (mm 11), .ref (mm 12), .ref (mm 13), .int 0, .ref (mm 14), .ref (mm 15), .ref (mm 16), .ref (mm 17), .int 0, .int 0, .int 0, .ref (mm 18), .ref (mm 19), .int 0, .int 0, .ref (mm 20), .ref (mm 21), .ref (mm 22), .int 0, .int 0, .int 0, .int 0, .ref (mm 23), .ref (mm 24), .ref (mm 25), .int 0]))] 84 11441
    refine mp_lsld hL 1 (by decide) (by decide) (by decide) (by decide +kernel) ?_
    show mp_W E X 4 366 [(3, .int 0), (2, .ref q2), (1, .ref q1), (0, .ref b)] [.int (xs 1), .ref q2, .int (-1)] [(q2, .inr (10, [.int 0, .ref (mm 1), .ref (mm 2), .ref (mm 3), .ref (mm 4), .ref (mm 5), .int 0, .int 0, .int 0, .int 0, .int 0, .long 0, .int 0, .int 0, .int 0, .int (-1), .ref (mm 6), .ref (mm 7), .ref (mm 8), .ref (mm 9), .ref (mm 10), .ref (mm 11), .ref (mm 12), .ref (mm 13), .int 0, .ref (mm 14), .ref (mm 15), .ref (mm 16), .ref (mm 17), .int 0, .int 0, .int 0, .ref (mm 18), .ref (mm 19), .int 0, .int 0, .ref (mm 20), .ref (mm 21), .ref (mm 22), .int 0, .int 0, .int 0, .int 0, .ref (mm 23), .ref (mm 24), .ref (mm 25), .int 0]))] 84 11441
    refine mp_callV hF (As := [.int (xs 1)]) (rest := [.int (-1)]) (wr := []) (aX10_end_14 E q2 (mm 1) (mm 2) (mm 3) (mm 4) (mm 5) (mm 6) (mm 7) (mm 8) (mm 9) (mm 10) (mm 11) (mm 12) (mm 13) (mm 14) (mm 15) (mm 16) (mm 17) (mm 18) (mm 19) (mm 20) (mm 21) (mm 22) (mm 23) (mm 24) (mm 25) (xs 1)) mp_lkL_22 0 rfl [0] [] rfl rfl rfl rfl rfl ⟨(Nat.le_of_ble_eq_true rfl), (Nat.le_of_ble_eq_true rfl), (Nat.le_of_ble_eq_true rfl), (Nat.le_of_ble_eq_true rfl)⟩ (Nat.le_of_ble_eq_true rfl) (by decide +kernel) (fun v13 w14 h15 => ?_)
    rcases h15 with ⟨rfl, c16, rfl⟩ | ⟨rfl, c17, c18, rfl⟩ | ⟨rfl, c19, c20, rfl⟩
    · skip
      have c16 : (xs 1).toInt < 0 := c16
      show mp_W E X 4 369 [(3, .int 0), (2, .ref q2), (1, .ref q1), (0, .ref b)] [.int (-1), .int (-1)] [] 84 11441
      refine mp_run hF mp_tabL_ok [mp_h (.if_icmp .eq 1850) [2219]] (by decide +kernel) ?_
      refine And.intro (fun _ => ?_) (fun c21 => absurd c21 (by decide))
      show mp_W E X 4 2219 [(3, .int 0), (2, .ref q2), (1, .ref q1), (0, .ref b)] [] [] 84 11441
      exact mp_sub [3, 0] rfl [] rfl rfl (mp_lw_next hL (Nat.le_of_ble_eq_true rfl) (Nat.le_of_ble_eq_true rfl))
    · skip
      have c17 : 0 ≤ (xs 1).toInt := c17
      have c18 : 0 < (xs 1).toInt := c18
      exfalso; omega
    · skip
      have c19 : 0 ≤ (xs 1).toInt := c19
      have c20 : (xs 1).toInt ≤ 0 := c20
      exfalso; omega
  · skip
    have c7 : 0 ≤ (xs 1).toInt := c7
    have c8 : 0 < (xs 1).toInt := c8
    show mp_W E X 4 360 [(3, .int 0), (2, .ref q2), (1, .ref q1), (0, .ref b)] [.int (-1)] [(q2, .inr (10, [.int 0, .ref (mm 1), .ref (mm 2), .ref (mm 3), .ref (mm 4), .ref (mm 5), .int 0, .int 0, .int 0, .int 0, .int 0, .long 0, .int 0, .int 0, .int 0, .int (-1), .ref (mm 6), .ref (mm 7), .ref (mm 8), .ref (mm 9), .ref (mm 10), .ref (mm 11), .ref (mm 12), .ref (mm 13), .int 0, .ref (mm 14), .ref (mm 15), .ref (mm 16), .ref (mm 17), .int 0, .int 0, .int 0, .ref (mm 18), .ref (mm 19), .int 0, .int 0, .ref (mm 20), .ref (mm 21), .ref (mm 22), .int 0, .int 0, .int 0, .int 0, .ref (mm 23), .ref (mm 24), .ref (mm 25), .int 0]))] 84 11441
    refine mp_run hF mp_tabL_ok [mp_i (.aload_n 2), mp_i (.aload_n 0), mp_i (.iload_n 3), mp_c (.iconst 1) 1, mp_i .iadd] (by decide +kernel) ?_
    intro z22 h23
    obtain rfl : z22 = 1 := h23.trans (by decide)
    show mp_W E X 4 365 [(3, .int 0), (2, .ref q2), (1, .ref q1), (0, .ref b)] [.int 1, .ref b, .ref q2, .int (-1)] [(q2, .inr (10, [.int 0, .ref (mm 1), .ref (mm 2), .ref (mm 3), .ref (mm 4), .ref (mm 5), .int 0, .int 0, .int 0, .int 0, .int 0, .long 0, .int 0, .int 0, .int 0, .int (-1), .ref (mm 6), .ref (mm 7), .ref (mm 8), .ref (mm 9), .ref (mm 10), .ref (mm 11), .ref (mm 12), .ref (mm 13), .int 0, .ref (mm 14), .ref (mm 15), .ref (mm 16), .ref (mm 17), .int 0, .int 0, .int 0, .ref (mm 18), .ref (mm 19), .int 0, .int 0, .ref (mm 20), .ref (mm 21), .ref (mm 22), .int 0, .int 0, .int 0, .int 0, .ref (mm 23), .ref (mm 24), .ref (mm 25), .int 0]))] 84 11441
    refine mp_lsld hL 1 (by decide) (by decide) (by decide) (by decide +kernel) ?_
    show mp_W E X 4 366 [(3, .int 0), (2, .ref q2), (1, .ref q1), (0, .ref b)] [.int (xs 1), .ref q2, .int (-1)] [(q2, .inr (10, [.int 0, .ref (mm 1), .ref (mm 2), .ref (mm 3), .ref (mm 4), .ref (mm 5), .int 0, .int 0, .int 0, .int 0, .int 0, .long 0, .int 0, .int 0, .int 0, .int (-1), .ref (mm 6), .ref (mm 7), .ref (mm 8), .ref (mm 9), .ref (mm 10), .ref (mm 11), .ref (mm 12), .ref (mm 13), .int 0, .ref (mm 14), .ref (mm 15), .ref (mm 16), .ref (mm 17), .int 0, .int 0, .int 0, .ref (mm 18), .ref (mm 19), .int 0, .int 0, .ref (mm 20), .ref (mm 21), .ref (mm 22), .int 0, .int 0, .int 0, .int 0, .ref (mm 23), .ref (mm 24), .ref (mm 25), .int 0]))] 84 11441
    refine mp_callV hF (As := [.int (xs 1)]) (rest := [.int (-1)]) (wr := []) (aX10_end_14 E q2 (mm 1) (mm 2) (mm 3) (mm 4) (mm 5) (mm 6) (mm 7) (mm 8) (mm 9) (mm 10) (mm 11) (mm 12) (mm 13) (mm 14) (mm 15) (mm 16) (mm 17) (mm 18) (mm 19) (mm 20) (mm 21) (mm 22) (mm 23) (mm 24) (mm 25) (xs 1)) mp_lkL_22 0 rfl [0] [] rfl rfl rfl rfl rfl ⟨(Nat.le_of_ble_eq_true rfl), (Nat.le_of_ble_eq_true rfl), (Nat.le_of_ble_eq_true rfl), (Nat.le_of_ble_eq_true rfl)⟩ (Nat.le_of_ble_eq_true rfl) (by decide +kernel) (fun v24 w25 h26 => ?_)
    rcases h26 with ⟨rfl, c27, rfl⟩ | ⟨rfl, c28, c29, rfl⟩ | ⟨rfl, c30, c31, rfl⟩
    · skip
      have c27 : (xs 1).toInt < 0 := c27
      exfalso; omega
    · skip
      have c28 : 0 ≤ (xs 1).toInt := c28
      have c29 : 0 < (xs 1).toInt := c29
      show mp_W E X 4 369 [(3, .int 0), (2, .ref q2), (1, .ref q1), (0, .ref b)] [.int (-1), .int (-1)] [] 84 11441
      refine mp_run hF mp_tabL_ok [mp_h (.if_icmp .eq 1850) [2219]] (by decide +kernel) ?_
      refine And.intro (fun _ => ?_) (fun c32 => absurd c32 (by decide))
      show mp_W E X 4 2219 [(3, .int 0), (2, .ref q2), (1, .ref q1), (0, .ref b)] [] [] 84 11441
      exact mp_sub [3, 0] rfl [] rfl rfl (mp_lw_next hL (Nat.le_of_ble_eq_true rfl) (Nat.le_of_ble_eq_true rfl))
    · skip
      have c30 : 0 ≤ (xs 1).toInt := c30
      have c31 : (xs 1).toInt ≤ 0 := c31
      exfalso; omega
  · skip
    have c9 : 0 ≤ (xs 1).toInt := c9
    have c10 : (xs 1).toInt ≤ 0 := c10
    show mp_W E X 4 360 [(3, .int 0), (2, .ref q2), (1, .ref q1), (0, .ref b)] [.int (xs 1)] [(q2, .inr (10, [.int 0, .ref (mm 1), .ref (mm 2), .ref (mm 3), .ref (mm 4), .ref (mm 5), .int 0, .int 0, .int 0, .int 0, .int 0, .long 0, .int 0, .int 0, .int 0, .int (-1), .ref (mm 6), .ref (mm 7), .ref (mm 8), .ref (mm 9), .ref (mm 10), .ref (mm 11), .ref (mm 12), .ref (mm 13), .int 0, .ref (mm 14), .ref (mm 15), .ref (mm 16), .ref (mm 17), .int 0, .int 0, .int 0, .ref (mm 18), .ref (mm 19), .int 0, .int 0, .ref (mm 20), .ref (mm 21), .ref (mm 22), .int 0, .int 0, .int 0, .int 0, .ref (mm 23), .ref (mm 24), .ref (mm 25), .int 0]))] 84 11441
    refine mp_run hF mp_tabL_ok [mp_i (.aload_n 2), mp_i (.aload_n 0), mp_i (.iload_n 3), mp_c (.iconst 1) 1, mp_i .iadd] (by decide +kernel) ?_
    intro z33 h34
    obtain rfl : z33 = 1 := h34.trans (by decide)
    show mp_W E X 4 365 [(3, .int 0), (2, .ref q2), (1, .ref q1), (0, .ref b)] [.int 1, .ref b, .ref q2, .int (xs 1)] [(q2, .inr (10, [.int 0, .ref (mm 1), .ref (mm 2), .ref (mm 3), .ref (mm 4), .ref (mm 5), .int 0, .int 0, .int 0, .int 0, .int 0, .long 0, .int 0, .int 0, .int 0, .int (-1), .ref (mm 6), .ref (mm 7), .ref (mm 8), .ref (mm 9), .ref (mm 10), .ref (mm 11), .ref (mm 12), .ref (mm 13), .int 0, .ref (mm 14), .ref (mm 15), .ref (mm 16), .ref (mm 17), .int 0, .int 0, .int 0, .ref (mm 18), .ref (mm 19), .int 0, .int 0, .ref (mm 20), .ref (mm 21), .ref (mm 22), .int 0, .int 0, .int 0, .int 0, .ref (mm 23), .ref (mm 24), .ref (mm 25), .int 0]))] 84 11441
    refine mp_lsld hL 1 (by decide) (by decide) (by decide) (by decide +kernel) ?_
    show mp_W E X 4 366 [(3, .int 0), (2, .ref q2), (1, .ref q1), (0, .ref b)] [.int (xs 1), .ref q2, .int (xs 1)] [(q2, .inr (10, [.int 0, .ref (mm 1), .ref (mm 2), .ref (mm 3), .ref (mm 4), .ref (mm 5), .int 0, .int 0, .int 0, .int 0, .int 0, .long 0, .int 0, .int 0, .int 0, .int (-1), .ref (mm 6), .ref (mm 7), .ref (mm 8), .ref (mm 9), .ref (mm 10), .ref (mm 11), .ref (mm 12), .ref (mm 13), .int 0, .ref (mm 14), .ref (mm 15), .ref (mm 16), .ref (mm 17), .int 0, .int 0, .int 0, .ref (mm 18), .ref (mm 19), .int 0, .int 0, .ref (mm 20), .ref (mm 21), .ref (mm 22), .int 0, .int 0, .int 0, .int 0, .ref (mm 23), .ref (mm 24), .ref (mm 25), .int 0]))] 84 11441
    refine mp_callV hF (As := [.int (xs 1)]) (rest := [.int (xs 1)]) (wr := []) (aX10_end_14 E q2 (mm 1) (mm 2) (mm 3) (mm 4) (mm 5) (mm 6) (mm 7) (mm 8) (mm 9) (mm 10) (mm 11) (mm 12) (mm 13) (mm 14) (mm 15) (mm 16) (mm 17) (mm 18) (mm 19) (mm 20) (mm 21) (mm 22) (mm 23) (mm 24) (mm 25) (xs 1)) mp_lkL_22 0 rfl [0] [] rfl rfl rfl rfl rfl ⟨(Nat.le_of_ble_eq_true rfl), (Nat.le_of_ble_eq_true rfl), (Nat.le_of_ble_eq_true rfl), (Nat.le_of_ble_eq_true rfl)⟩ (Nat.le_of_ble_eq_true rfl) (by decide +kernel) (fun v35 w36 h37 => ?_)
    rcases h37 with ⟨rfl, c38, rfl⟩ | ⟨rfl, c39, c40, rfl⟩ | ⟨rfl, c41, c42, rfl⟩
    · skip
      have c38 : (xs 1).toInt < 0 := c38
      exfalso; omega
    · skip
      have c39 : 0 ≤ (xs 1).toInt := c39
      have c40 : 0 < (xs 1).toInt := c40
      exfalso; omega
    · skip
      have c41 : 0 ≤ (xs 1).toInt := c41
      have c42 : (xs 1).toInt ≤ 0 := c42
      show mp_W E X 4 369 [(3, .int 0), (2, .ref q2), (1, .ref q1), (0, .ref b)] [.int (xs 1), .int (xs 1)] [] 84 11441
      refine mp_run hF mp_tabL_ok [mp_h (.if_icmp .eq 1850) [2219]] (by decide +kernel) ?_
      refine And.intro (fun c43 => ?_) (fun c43 => ?_)
      · have c43 : (xs 1).toInt = (xs 1).toInt := (congrArg Int32.toInt c43)
        show mp_W E X 4 2219 [(3, .int 0), (2, .ref q2), (1, .ref q1), (0, .ref b)] [] [] 84 11441
        exact mp_sub [3, 0] rfl [] rfl rfl (mp_lw_next hL (Nat.le_of_ble_eq_true rfl) (Nat.le_of_ble_eq_true rfl))
      · have c43 : (xs 1).toInt ≠ (xs 1).toInt := c43
        exfalso; omega

set_option maxHeartbeats 4000000 in
set_option maxRecDepth 100000 in
theorem mp_case_2 {E : mp_E} {X : mp_X} {b : Nat} {xs : Nat → Int32} (hL : mp_Lw E X b 6 xs) (q1 q2 : Nat) (bb mm : Nat → Nat) (vs ln wd : Nat → Int32) (hln : ∀ j, j < 4 → ln j = -1) (hwd : ∀ j, j < 4 → wd j = -1) : mp_W E X 4 374 [(3, .int 0), (2, .ref q2), (1, .ref q1), (0, .ref b)] [] (mp_w0 E q1 q2 bb mm vs ln wd) 84 11441 := by
  have hF : mp_F E X (RL, code, 4, (2048, 600000, 7302250, 84000), ret, false) := hL.1
  show mp_W E X 4 374 [(3, .int 0), (2, .ref q2), (1, .ref q1), (0, .ref b)] [] (mp_w0 E q1 q2 bb mm vs ln wd) 84 11441
  refine mp_run hF mp_tabL_ok [mp_i (.aload_n 1)] (by decide +kernel) ?_
  show mp_W E X 4 375 [(3, .int 0), (2, .ref q2), (1, .ref q1), (0, .ref b)] [.ref q1] (mp_w0 E q1 q2 bb mm vs ln wd) 84 11441
  refine mp_callV hF (As := []) (rest := []) (wr := [(q2, .inr (10, [.int 0, .ref (mm 1), .ref (mm 2), .ref (mm 3), .ref (mm 4), .ref (mm 5), .int 0, .int 0, .int 0, .int 0, .int 0, .long 0, .int 0, .int 0, .int 0, .int (-1), .ref (mm 6), .ref (mm 7), .ref (mm 8), .ref (mm 9), .ref (mm 10), .ref (mm 11), .ref (mm 12), .ref (mm 13), .int 0, .ref (mm 14), .ref (mm 15), .ref (mm 16), .ref (mm 17), .int 0, .int 0, .int 0, .ref (mm 18), .ref (mm 19), .int 0, .int 0, .ref (mm 20), .ref (mm 21), .ref (mm 22), .int 0, .int 0, .int 0, .int 0, .ref (mm 23), .ref (mm 24), .ref (mm 25), .int 0])), ((mm 6), .inl (E.2.2 0, 5, .inl (fun _ => 0))), ((mm 7), .inl (E.2.2 0, 25, .inl (fun _ => 0))), ((mm 8), .inl (E.2.2 0, 180, .inl (fun _ => 0))), ((mm 9), .inl (E.2.2 3, 3000, .inl (fun _ => 0))), ((mm 10), .inl (E.2.2 0, 90, .inl (fun _ => 0))), ((mm 11), .inl (E.2.2 0, 300, .inl (fun _ => 0))), ((mm 12), .inl (E.2.2 0, 300, .inl (fun _ => 0)))]) (aX9_isles_23 E q1 (bb 1) (bb 3) (bb 4) (bb 5) (bb 6) (bb 7) (bb 8) (bb 9) (bb 10) (bb 11) (bb 12) (bb 13) (bb 14) (bb 15) (bb 16) (bb 17) (bb 18) (bb 19) (bb 20) (bb 21) (bb 22) (bb 23) (bb 24) (bb 25) (bb 26) (bb 27) (bb 28) (bb 29) (bb 33) (bb 36) (bb 37) (bb 40) (bb 46) (bb 49) (bb 52) (bb 54) (bb 2) (bb 30) (bb 31) (bb 32) (bb 34) (bb 35)) mp_lkL_23 0 rfl [0, 1, 3, 4, 5, 6, 7, 8, 9, 10, 11, 12, 13, 14, 15, 16, 17, 18, 19, 20, 21, 22, 23, 24, 25, 26, 27, 28, 29, 33] [58, 64, 65, 66, 67, 68, 69, 70] rfl rfl rfl rfl rfl ⟨(Nat.le_of_ble_eq_true rfl), (Nat.le_of_ble_eq_true rfl), (Nat.le_of_ble_eq_true rfl), (Nat.le_of_ble_eq_true rfl)⟩ (Nat.le_of_ble_eq_true rfl) (by decide +kernel) (fun v1 w2 h3 => ?_)
  obtain ⟨rfl, rfl⟩ := h3
  show mp_W E X 4 378 [(3, .int 0), (2, .ref q2), (1, .ref q1), (0, .ref b)] [.int 0] [(q2, .inr (10, [.int 0, .ref (mm 1), .ref (mm 2), .ref (mm 3), .ref (mm 4), .ref (mm 5), .int 0, .int 0, .int 0, .int 0, .int 0, .long 0, .int 0, .int 0, .int 0, .int (-1), .ref (mm 6), .ref (mm 7), .ref (mm 8), .ref (mm 9), .ref (mm 10), .ref (mm 11), .ref (mm 12), .ref (mm 13), .int 0, .ref (mm 14), .ref (mm 15), .ref (mm 16), .ref (mm 17), .int 0, .int 0, .int 0, .ref (mm 18), .ref (mm 19), .int 0, .int 0, .ref (mm 20), .ref (mm 21), .ref (mm 22), .int 0, .int 0, .int 0, .int 0, .ref (mm 23), .ref (mm 24), .ref (mm 25), .int 0])), ((mm 6), .inl (E.2.2 0, 5, .inl (fun _ => 0))), ((mm 7), .inl (E.2.2 0, 25, .inl (fun _ => 0))), ((mm 8), .inl (E.2.2 0, 180, .inl (fun _ => 0))), ((mm 9), .inl (E.2.2 3, 3000, .inl (fun _ => 0))), ((mm 10), .inl (E.2.2 0, 90, .inl (fun _ => 0))), ((mm 11), .inl (E.2.2 0, 300, .inl (fun _ => 0))), ((mm 12), .inl (E.2.2 0, 300, .inl (fun _ => 0)))] 84 11441
  refine mp_run hF mp_tabL_ok [mp_i (.aload_n 2)] (by decide +kernel) ?_
  show mp_W E X 4 379 [(3, .int 0), (2, .ref q2), (1, .ref q1), (0, .ref b)] [.ref q2, .int 0] [(q2, .inr (10, [.int 0, .ref (mm 1), .ref (mm 2), .ref (mm 3), .ref (mm 4), .ref (mm 5), .int 0, .int 0, .int 0, .int 0, .int 0, .long 0, .int 0, .int 0, .int 0, .int (-1), .ref (mm 6), .ref (mm 7), .ref (mm 8), .ref (mm 9), .ref (mm 10), .ref (mm 11), .ref (mm 12), .ref (mm 13), .int 0, .ref (mm 14), .ref (mm 15), .ref (mm 16), .ref (mm 17), .int 0, .int 0, .int 0, .ref (mm 18), .ref (mm 19), .int 0, .int 0, .ref (mm 20), .ref (mm 21), .ref (mm 22), .int 0, .int 0, .int 0, .int 0, .ref (mm 23), .ref (mm 24), .ref (mm 25), .int 0])), ((mm 6), .inl (E.2.2 0, 5, .inl (fun _ => 0))), ((mm 7), .inl (E.2.2 0, 25, .inl (fun _ => 0))), ((mm 8), .inl (E.2.2 0, 180, .inl (fun _ => 0))), ((mm 9), .inl (E.2.2 3, 3000, .inl (fun _ => 0))), ((mm 10), .inl (E.2.2 0, 90, .inl (fun _ => 0))), ((mm 11), .inl (E.2.2 0, 300, .inl (fun _ => 0))), ((mm 12), .inl (E.2.2 0, 300, .inl (fun _ => 0)))] 84 11441
  refine mp_callV hF (As := []) (rest := [.int 0]) (wr := []) (aX10_isles_37 E q2 (mm 6) (mm 7) (mm 8) (mm 9) (mm 10) (mm 11) (mm 12) (mm 1) (mm 2) (mm 3) (mm 4) (mm 5) (mm 13) (mm 14) (mm 15) (mm 16) (mm 17) (mm 18) (mm 19) (mm 20) (mm 21) (mm 22) (mm 23) (mm 24) (mm 25)) mp_lkL_27 0 rfl [0, 1, 2, 3, 4, 5, 6, 7] [] rfl rfl rfl rfl rfl ⟨(Nat.le_of_ble_eq_true rfl), (Nat.le_of_ble_eq_true rfl), (Nat.le_of_ble_eq_true rfl), (Nat.le_of_ble_eq_true rfl)⟩ (Nat.le_of_ble_eq_true rfl) (by decide +kernel) (fun v4 w5 h6 => ?_)
  obtain ⟨rfl, rfl⟩ := h6
  show mp_W E X 4 382 [(3, .int 0), (2, .ref q2), (1, .ref q1), (0, .ref b)] [.int 0, .int 0] [] 84 11441
  refine mp_run hF mp_tabL_ok [mp_h (.if_icmp .eq 1837) [2219]] (by decide +kernel) ?_
  refine And.intro (fun _ => ?_) (fun c7 => absurd c7 (by decide))
  show mp_W E X 4 2219 [(3, .int 0), (2, .ref q2), (1, .ref q1), (0, .ref b)] [] [] 84 11441
  exact mp_sub [3, 0] rfl [] rfl rfl (mp_lw_next hL (Nat.le_of_ble_eq_true rfl) (Nat.le_of_ble_eq_true rfl))

set_option maxHeartbeats 4000000 in
set_option maxRecDepth 100000 in
theorem mp_case_3 {E : mp_E} {X : mp_X} {b : Nat} {xs : Nat → Int32} (hL : mp_Lw E X b 6 xs) (q1 q2 : Nat) (bb mm : Nat → Nat) (vs ln wd : Nat → Int32) (hln : ∀ j, j < 4 → ln j = -1) (hwd : ∀ j, j < 4 → wd j = -1) : mp_W E X 4 387 [(3, .int 0), (2, .ref q2), (1, .ref q1), (0, .ref b)] [] (mp_w0 E q1 q2 bb mm vs ln wd) 84 11441 := by
  have hF : mp_F E X (RL, code, 4, (2048, 600000, 7302250, 84000), ret, false) := hL.1
  show mp_W E X 4 387 [(3, .int 0), (2, .ref q2), (1, .ref q1), (0, .ref b)] [] (mp_w0 E q1 q2 bb mm vs ln wd) 84 11441
  refine mp_run hF mp_tabL_ok [mp_i (.aload_n 1), mp_i (.aload_n 0), mp_i (.iload_n 3), mp_c (.iconst 1) 1, mp_i .iadd] (by decide +kernel) ?_
  intro z1 h2
  obtain rfl : z1 = 1 := h2.trans (by decide)
  show mp_W E X 4 392 [(3, .int 0), (2, .ref q2), (1, .ref q1), (0, .ref b)] [.int 1, .ref b, .ref q1] (mp_w0 E q1 q2 bb mm vs ln wd) 84 11441
  refine mp_lsld hL 1 (by decide) (by decide) (by decide) (by decide +kernel) ?_
  show mp_W E X 4 393 [(3, .int 0), (2, .ref q2), (1, .ref q1), (0, .ref b)] [.int (xs 1), .ref q1] (mp_w0 E q1 q2 bb mm vs ln wd) 84 11441
  refine mp_callV hF (As := [.int (xs 1)]) (rest := []) (wr := [(q2, .inr (10, [.int 0, .ref (mm 1), .ref (mm 2), .ref (mm 3), .ref (mm 4), .ref (mm 5), .int 0, .int 0, .int 0, .int 0, .int 0, .long 0, .int 0, .int 0, .int 0, .int (-1), .ref (mm 6), .ref (mm 7), .ref (mm 8), .ref (mm 9), .ref (mm 10), .ref (mm 11), .ref (mm 12), .ref (mm 13), .int 0, .ref (mm 14), .ref (mm 15), .ref (mm 16), .ref (mm 17), .int 0, .int 0, .int 0, .ref (mm 18), .ref (mm 19), .int 0, .int 0, .ref (mm 20), .ref (mm 21), .ref (mm 22), .int 0, .int 0, .int 0, .int 0, .ref (mm 23), .ref (mm 24), .ref (mm 25), .int 0]))]) (aX9_fault_38 E q1 (bb 1) (bb 16) (bb 36) (bb 37) (bb 40) (bb 46) (bb 49) (bb 52) (bb 54) (bb 2) (bb 3) (xs 1)) mp_lkL_28 0 rfl [0, 1] [58] rfl rfl rfl rfl rfl ⟨(Nat.le_of_ble_eq_true rfl), (Nat.le_of_ble_eq_true rfl), (Nat.le_of_ble_eq_true rfl), (Nat.le_of_ble_eq_true rfl)⟩ (Nat.le_of_ble_eq_true rfl) (by decide +kernel) (fun v3 w4 h5 => ?_)
  rcases h5 with ⟨rfl, c6, c7, rfl⟩ | ⟨rfl, c8, c9, rfl⟩ | ⟨rfl, c10, rfl⟩
  · skip
    have c6 : (xs 1).toInt ≠ 0 := c6
    have c7 : (xs 1).toInt ≠ 1 := c7
    show mp_W E X 4 396 [(3, .int 0), (2, .ref q2), (1, .ref q1), (0, .ref b)] [.int (-1)] [(q2, .inr (10, [.int 0, .ref (mm 1), .ref (mm 2), .ref (mm 3), .ref (mm 4), .ref (mm 5), .int 0, .int 0, .int 0, .int 0, .int 0, .long 0, .int 0, .int 0, .int 0, .int (-1), .ref (mm 6), .ref (mm 7), .ref (mm 8), .ref (mm 9), .ref (mm 10), .ref (mm 11), .ref (mm 12), .ref (mm 13), .int 0, .ref (mm 14), .ref (mm 15), .ref (mm 16), .ref (mm 17), .int 0, .int 0, .int 0, .ref (mm 18), .ref (mm 19), .int 0, .int 0, .ref (mm 20), .ref (mm 21), .ref (mm 22), .int 0, .int 0, .int 0, .int 0, .ref (mm 23), .ref (mm 24), .ref (mm 25), .int 0]))] 84 11441
    refine mp_run hF mp_tabL_ok [mp_i (.aload_n 2), mp_i (.aload_n 0), mp_i (.iload_n 3), mp_c (.iconst 1) 1, mp_i .iadd] (by decide +kernel) ?_
    intro z11 h12
    obtain rfl : z11 = 1 := h12.trans (by decide)
    show mp_W E X 4 401 [(3, .int 0), (2, .ref q2), (1, .ref q1), (0, .ref b)] [.int 1, .ref b, .ref q2, .int (-1)] [(q2, .inr (10, [.int 0, .ref (mm 1), .ref (mm 2), .ref (mm 3), .ref (mm 4), .ref (mm 5), .int 0, .int 0, .int 0, .int 0, .int 0, .long 0, .int 0, .int 0, .int 0, .int (-1), .ref (mm 6), .ref (mm 7), .ref (mm 8), .ref (mm 9), .ref (mm 10), .ref (mm 11), .ref (mm 12), .ref (mm 13), .int 0, .ref (mm 14), .ref (mm 15), .ref (mm 16), .ref (mm 17), .int 0, .int 0, .int 0, .ref (mm 18), .ref (mm 19), .int 0, .int 0, .ref (mm 20), .ref (mm 21), .ref (mm 22), .int 0, .int 0, .int 0, .int 0, .ref (mm 23), .ref (mm 24), .ref (mm 25), .int 0]))] 84 11441
    refine mp_lsld hL 1 (by decide) (by decide) (by decide) (by decide +kernel) ?_
    show mp_W E X 4 402 [(3, .int 0), (2, .ref q2), (1, .ref q1), (0, .ref b)] [.int (xs 1), .ref q2, .int (-1)] [(q2, .inr (10, [.int 0, .ref (mm 1), .ref (mm 2), .ref (mm 3), .ref (mm 4), .ref (mm 5), .int 0, .int 0, .int 0, .int 0, .int 0, .long 0, .int 0, .int 0, .int 0, .int (-1), .ref (mm 6), .ref (mm 7), .ref (mm 8), .ref (mm 9), .ref (mm 10), .ref (mm 11), .ref (mm 12), .ref (mm 13), .int 0, .ref (mm 14), .ref (mm 15), .ref (mm 16), .ref (mm 17), .int 0, .int 0, .int 0, .ref (mm 18), .ref (mm 19), .int 0, .int 0, .ref (mm 20), .ref (mm 21), .ref (mm 22), .int 0, .int 0, .int 0, .int 0, .ref (mm 23), .ref (mm 24), .ref (mm 25), .int 0]))] 84 11441
    refine mp_callV hF (As := [.int (xs 1)]) (rest := [.int (-1)]) (wr := []) (aX10_fault_39 E q2 (mm 1) (mm 2) (mm 3) (mm 4) (mm 5) (mm 6) (mm 7) (mm 8) (mm 9) (mm 10) (mm 11) (mm 12) (mm 13) (mm 14) (mm 15) (mm 16) (mm 17) (mm 18) (mm 19) (mm 20) (mm 21) (mm 22) (mm 23) (mm 24) (mm 25) (xs 1)) mp_lkL_31 0 rfl [0] [] rfl rfl rfl rfl rfl ⟨(Nat.le_of_ble_eq_true rfl), (Nat.le_of_ble_eq_true rfl), (Nat.le_of_ble_eq_true rfl), (Nat.le_of_ble_eq_true rfl)⟩ (Nat.le_of_ble_eq_true rfl) (by decide +kernel) (fun v13 w14 h15 => ?_)
    rcases h15 with ⟨rfl, c16, c17, rfl⟩ | ⟨rfl, c18, c19, rfl⟩ | ⟨rfl, c20, rfl⟩
    · skip
      have c16 : (xs 1).toInt ≠ 0 := c16
      have c17 : (xs 1).toInt ≠ 1 := c17
      show mp_W E X 4 405 [(3, .int 0), (2, .ref q2), (1, .ref q1), (0, .ref b)] [.int (-1), .int (-1)] [] 84 11441
      refine mp_run hF mp_tabL_ok [mp_h (.if_icmp .eq 1814) [2219]] (by decide +kernel) ?_
      refine And.intro (fun _ => ?_) (fun c21 => absurd c21 (by decide))
      show mp_W E X 4 2219 [(3, .int 0), (2, .ref q2), (1, .ref q1), (0, .ref b)] [] [] 84 11441
      exact mp_sub [3, 0] rfl [] rfl rfl (mp_lw_next hL (Nat.le_of_ble_eq_true rfl) (Nat.le_of_ble_eq_true rfl))
    · skip
      have c18 : (xs 1).toInt ≠ 0 := c18
      have c19 : (xs 1).toInt = 1 := c19
      show mp_W E X 4 405 [(3, .int 0), (2, .ref q2), (1, .ref q1), (0, .ref b)] [.int (-1), .int (-1)] [] 84 11441
      refine mp_run hF mp_tabL_ok [mp_h (.if_icmp .eq 1814) [2219]] (by decide +kernel) ?_
      refine And.intro (fun _ => ?_) (fun c22 => absurd c22 (by decide))
      show mp_W E X 4 2219 [(3, .int 0), (2, .ref q2), (1, .ref q1), (0, .ref b)] [] [] 84 11441
      exact mp_sub [3, 0] rfl [] rfl rfl (mp_lw_next hL (Nat.le_of_ble_eq_true rfl) (Nat.le_of_ble_eq_true rfl))
    · skip
      have c20 : (xs 1).toInt = 0 := c20
      show mp_W E X 4 405 [(3, .int 0), (2, .ref q2), (1, .ref q1), (0, .ref b)] [.int 0, .int (-1)] [] 84 11441
      refine mp_run hF mp_tabL_ok [mp_h (.if_icmp .eq 1814) [2219]] (by decide +kernel) ?_
      refine And.intro (fun c23 => absurd c23 (by decide)) (fun _ => ?_)
      show mp_W E X 4 408 [(3, .int 0), (2, .ref q2), (1, .ref q1), (0, .ref b)] [] [] 84 11441
      refine mp_run hF mp_tabL_ok [mp_c (.iconst 0) 0] (by decide +kernel) ?_
      show mp_W E X 4 409 [(3, .int 0), (2, .ref q2), (1, .ref q1), (0, .ref b)] [.int 0] [] 84 11441
      exfalso; omega
  · skip
    have c8 : (xs 1).toInt ≠ 0 := c8
    have c9 : (xs 1).toInt = 1 := c9
    show mp_W E X 4 396 [(3, .int 0), (2, .ref q2), (1, .ref q1), (0, .ref b)] [.int (-1)] [(q2, .inr (10, [.int 0, .ref (mm 1), .ref (mm 2), .ref (mm 3), .ref (mm 4), .ref (mm 5), .int 0, .int 0, .int 0, .int 0, .int 0, .long 0, .int 0, .int 0, .int 0, .int (-1), .ref (mm 6), .ref (mm 7), .ref (mm 8), .ref (mm 9), .ref (mm 10), .ref (mm 11), .ref (mm 12), .ref (mm 13), .int 0, .ref (mm 14), .ref (mm 15), .ref (mm 16), .ref (mm 17), .int 0, .int 0, .int 0, .ref (mm 18), .ref (mm 19), .int 0, .int 0, .ref (mm 20), .ref (mm 21), .ref (mm 22), .int 0, .int 0, .int 0, .int 0, .ref (mm 23), .ref (mm 24), .ref (mm 25), .int 0]))] 84 11441
    refine mp_run hF mp_tabL_ok [mp_i (.aload_n 2), mp_i (.aload_n 0), mp_i (.iload_n 3), mp_c (.iconst 1) 1, mp_i .iadd] (by decide +kernel) ?_
    intro z24 h25
    obtain rfl : z24 = 1 := h25.trans (by decide)
    show mp_W E X 4 401 [(3, .int 0), (2, .ref q2), (1, .ref q1), (0, .ref b)] [.int 1, .ref b, .ref q2, .int (-1)] [(q2, .inr (10, [.int 0, .ref (mm 1), .ref (mm 2), .ref (mm 3), .ref (mm 4), .ref (mm 5), .int 0, .int 0, .int 0, .int 0, .int 0, .long 0, .int 0, .int 0, .int 0, .int (-1), .ref (mm 6), .ref (mm 7), .ref (mm 8), .ref (mm 9), .ref (mm 10), .ref (mm 11), .ref (mm 12), .ref (mm 13), .int 0, .ref (mm 14), .ref (mm 15), .ref (mm 16), .ref (mm 17), .int 0, .int 0, .int 0, .ref (mm 18), .ref (mm 19), .int 0, .int 0, .ref (mm 20), .ref (mm 21), .ref (mm 22), .int 0, .int 0, .int 0, .int 0, .ref (mm 23), .ref (mm 24), .ref (mm 25), .int 0]))] 84 11441
    refine mp_lsld hL 1 (by decide) (by decide) (by decide) (by decide +kernel) ?_
    show mp_W E X 4 402 [(3, .int 0), (2, .ref q2), (1, .ref q1), (0, .ref b)] [.int (xs 1), .ref q2, .int (-1)] [(q2, .inr (10, [.int 0, .ref (mm 1), .ref (mm 2), .ref (mm 3), .ref (mm 4), .ref (mm 5), .int 0, .int 0, .int 0, .int 0, .int 0, .long 0, .int 0, .int 0, .int 0, .int (-1), .ref (mm 6), .ref (mm 7), .ref (mm 8), .ref (mm 9), .ref (mm 10), .ref (mm 11), .ref (mm 12), .ref (mm 13), .int 0, .ref (mm 14), .ref (mm 15), .ref (mm 16), .ref (mm 17), .int 0, .int 0, .int 0, .ref (mm 18), .ref (mm 19), .int 0, .int 0, .ref (mm 20), .ref (mm 21), .ref (mm 22), .int 0, .int 0, .int 0, .int 0, .ref (mm 23), .ref (mm 24), .ref (mm 25), .int 0]))] 84 11441
    refine mp_callV hF (As := [.int (xs 1)]) (rest := [.int (-1)]) (wr := []) (aX10_fault_39 E q2 (mm 1) (mm 2) (mm 3) (mm 4) (mm 5) (mm 6) (mm 7) (mm 8) (mm 9) (mm 10) (mm 11) (mm 12) (mm 13) (mm 14) (mm 15) (mm 16) (mm 17) (mm 18) (mm 19) (mm 20) (mm 21) (mm 22) (mm 23) (mm 24) (mm 25) (xs 1)) mp_lkL_31 0 rfl [0] [] rfl rfl rfl rfl rfl ⟨(Nat.le_of_ble_eq_true rfl), (Nat.le_of_ble_eq_true rfl), (Nat.le_of_ble_eq_true rfl), (Nat.le_of_ble_eq_true rfl)⟩ (Nat.le_of_ble_eq_true rfl) (by decide +kernel) (fun v26 w27 h28 => ?_)
    rcases h28 with ⟨rfl, c29, c30, rfl⟩ | ⟨rfl, c31, c32, rfl⟩ | ⟨rfl, c33, rfl⟩
    · skip
      have c29 : (xs 1).toInt ≠ 0 := c29
      have c30 : (xs 1).toInt ≠ 1 := c30
      exfalso; omega
    · skip
      have c31 : (xs 1).toInt ≠ 0 := c31
      have c32 : (xs 1).toInt = 1 := c32
      show mp_W E X 4 405 [(3, .int 0), (2, .ref q2), (1, .ref q1), (0, .ref b)] [.int (-1), .int (-1)] [] 84 11441
      refine mp_run hF mp_tabL_ok [mp_h (.if_icmp .eq 1814) [2219]] (by decide +kernel) ?_
      refine And.intro (fun _ => ?_) (fun c34 => absurd c34 (by decide))
      show mp_W E X 4 2219 [(3, .int 0), (2, .ref q2), (1, .ref q1), (0, .ref b)] [] [] 84 11441
      exact mp_sub [3, 0] rfl [] rfl rfl (mp_lw_next hL (Nat.le_of_ble_eq_true rfl) (Nat.le_of_ble_eq_true rfl))
    · skip
      have c33 : (xs 1).toInt = 0 := c33
      exfalso; omega
  · skip
    have c10 : (xs 1).toInt = 0 := c10
    show mp_W E X 4 396 [(3, .int 0), (2, .ref q2), (1, .ref q1), (0, .ref b)] [.int 0] [(q2, .inr (10, [.int 0, .ref (mm 1), .ref (mm 2), .ref (mm 3), .ref (mm 4), .ref (mm 5), .int 0, .int 0, .int 0, .int 0, .int 0, .long 0, .int 0, .int 0, .int 0, .int (-1), .ref (mm 6), .ref (mm 7), .ref (mm 8), .ref (mm 9), .ref (mm 10), .ref (mm 11), .ref (mm 12), .ref (mm 13), .int 0, .ref (mm 14), .ref (mm 15), .ref (mm 16), .ref (mm 17), .int 0, .int 0, .int 0, .ref (mm 18), .ref (mm 19), .int 0, .int 0, .ref (mm 20), .ref (mm 21), .ref (mm 22), .int 0, .int 0, .int 0, .int 0, .ref (mm 23), .ref (mm 24), .ref (mm 25), .int 0]))] 84 11441
    refine mp_run hF mp_tabL_ok [mp_i (.aload_n 2), mp_i (.aload_n 0), mp_i (.iload_n 3), mp_c (.iconst 1) 1, mp_i .iadd] (by decide +kernel) ?_
    intro z35 h36
    obtain rfl : z35 = 1 := h36.trans (by decide)
    show mp_W E X 4 401 [(3, .int 0), (2, .ref q2), (1, .ref q1), (0, .ref b)] [.int 1, .ref b, .ref q2, .int 0] [(q2, .inr (10, [.int 0, .ref (mm 1), .ref (mm 2), .ref (mm 3), .ref (mm 4), .ref (mm 5), .int 0, .int 0, .int 0, .int 0, .int 0, .long 0, .int 0, .int 0, .int 0, .int (-1), .ref (mm 6), .ref (mm 7), .ref (mm 8), .ref (mm 9), .ref (mm 10), .ref (mm 11), .ref (mm 12), .ref (mm 13), .int 0, .ref (mm 14), .ref (mm 15), .ref (mm 16), .ref (mm 17), .int 0, .int 0, .int 0, .ref (mm 18), .ref (mm 19), .int 0, .int 0, .ref (mm 20), .ref (mm 21), .ref (mm 22), .int 0, .int 0, .int 0, .int 0, .ref (mm 23), .ref (mm 24), .ref (mm 25), .int 0]))] 84 11441
    refine mp_lsld hL 1 (by decide) (by decide) (by decide) (by decide +kernel) ?_
    show mp_W E X 4 402 [(3, .int 0), (2, .ref q2), (1, .ref q1), (0, .ref b)] [.int (xs 1), .ref q2, .int 0] [(q2, .inr (10, [.int 0, .ref (mm 1), .ref (mm 2), .ref (mm 3), .ref (mm 4), .ref (mm 5), .int 0, .int 0, .int 0, .int 0, .int 0, .long 0, .int 0, .int 0, .int 0, .int (-1), .ref (mm 6), .ref (mm 7), .ref (mm 8), .ref (mm 9), .ref (mm 10), .ref (mm 11), .ref (mm 12), .ref (mm 13), .int 0, .ref (mm 14), .ref (mm 15), .ref (mm 16), .ref (mm 17), .int 0, .int 0, .int 0, .ref (mm 18), .ref (mm 19), .int 0, .int 0, .ref (mm 20), .ref (mm 21), .ref (mm 22), .int 0, .int 0, .int 0, .int 0, .ref (mm 23), .ref (mm 24), .ref (mm 25), .int 0]))] 84 11441
    refine mp_callV hF (As := [.int (xs 1)]) (rest := [.int 0]) (wr := []) (aX10_fault_39 E q2 (mm 1) (mm 2) (mm 3) (mm 4) (mm 5) (mm 6) (mm 7) (mm 8) (mm 9) (mm 10) (mm 11) (mm 12) (mm 13) (mm 14) (mm 15) (mm 16) (mm 17) (mm 18) (mm 19) (mm 20) (mm 21) (mm 22) (mm 23) (mm 24) (mm 25) (xs 1)) mp_lkL_31 0 rfl [0] [] rfl rfl rfl rfl rfl ⟨(Nat.le_of_ble_eq_true rfl), (Nat.le_of_ble_eq_true rfl), (Nat.le_of_ble_eq_true rfl), (Nat.le_of_ble_eq_true rfl)⟩ (Nat.le_of_ble_eq_true rfl) (by decide +kernel) (fun v37 w38 h39 => ?_)
    rcases h39 with ⟨rfl, c40, c41, rfl⟩ | ⟨rfl, c42, c43, rfl⟩ | ⟨rfl, c44, rfl⟩
    · skip
      have c40 : (xs 1).toInt ≠ 0 := c40
      have c41 : (xs 1).toInt ≠ 1 := c41
      exfalso; omega
    · skip
      have c42 : (xs 1).toInt ≠ 0 := c42
      have c43 : (xs 1).toInt = 1 := c43
      exfalso; omega
    · skip
      have c44 : (xs 1).toInt = 0 := c44
      show mp_W E X 4 405 [(3, .int 0), (2, .ref q2), (1, .ref q1), (0, .ref b)] [.int 0, .int 0] [] 84 11441
      refine mp_run hF mp_tabL_ok [mp_h (.if_icmp .eq 1814) [2219]] (by decide +kernel) ?_
      refine And.intro (fun _ => ?_) (fun c45 => absurd c45 (by decide))
      show mp_W E X 4 2219 [(3, .int 0), (2, .ref q2), (1, .ref q1), (0, .ref b)] [] [] 84 11441
      exact mp_sub [3, 0] rfl [] rfl rfl (mp_lw_next hL (Nat.le_of_ble_eq_true rfl) (Nat.le_of_ble_eq_true rfl))

set_option maxHeartbeats 4000000 in
set_option maxRecDepth 100000 in
theorem mp_case_4 {E : mp_E} {X : mp_X} {b : Nat} {xs : Nat → Int32} (hL : mp_Lw E X b 6 xs) (q1 q2 : Nat) (bb mm : Nat → Nat) (vs ln wd : Nat → Int32) (hln : ∀ j, j < 4 → ln j = -1) (hwd : ∀ j, j < 4 → wd j = -1) : mp_W E X 4 410 [(3, .int 0), (2, .ref q2), (1, .ref q1), (0, .ref b)] [] (mp_w0 E q1 q2 bb mm vs ln wd) 84 11441 := by
  have hF : mp_F E X (RL, code, 4, (2048, 600000, 7302250, 84000), ret, false) := hL.1
  show mp_W E X 4 410 [(3, .int 0), (2, .ref q2), (1, .ref q1), (0, .ref b)] [] (mp_w0 E q1 q2 bb mm vs ln wd) 84 11441
  refine mp_run hF mp_tabL_ok [mp_i (.aload_n 1), mp_i (.aload_n 0), mp_i (.iload_n 3), mp_c (.iconst 1) 1, mp_i .iadd] (by decide +kernel) ?_
  intro z1 h2
  obtain rfl : z1 = 1 := h2.trans (by decide)
  show mp_W E X 4 415 [(3, .int 0), (2, .ref q2), (1, .ref q1), (0, .ref b)] [.int 1, .ref b, .ref q1] (mp_w0 E q1 q2 bb mm vs ln wd) 84 11441
  refine mp_lsld hL 1 (by decide) (by decide) (by decide) (by decide +kernel) ?_
  show mp_W E X 4 416 [(3, .int 0), (2, .ref q2), (1, .ref q1), (0, .ref b)] [.int (xs 1), .ref q1] (mp_w0 E q1 q2 bb mm vs ln wd) 84 11441
  refine mp_run hF mp_tabL_ok [mp_i (.aload_n 0), mp_i (.iload_n 3), mp_c (.iconst 2) 2, mp_i .iadd] (by decide +kernel) ?_
  intro z3 h4
  obtain rfl : z3 = 2 := h4.trans (by decide)
  show mp_W E X 4 420 [(3, .int 0), (2, .ref q2), (1, .ref q1), (0, .ref b)] [.int 2, .ref b, .int (xs 1), .ref q1] (mp_w0 E q1 q2 bb mm vs ln wd) 84 11441
  refine mp_lsld hL 2 (by decide) (by decide) (by decide) (by decide +kernel) ?_
  show mp_W E X 4 421 [(3, .int 0), (2, .ref q2), (1, .ref q1), (0, .ref b)] [.int (xs 2), .int (xs 1), .ref q1] (mp_w0 E q1 q2 bb mm vs ln wd) 84 11441
  refine mp_callV hF (As := [.int (xs 1), .int (xs 2)]) (rest := []) (wr := [(q2, .inr (10, [.int 0, .ref (mm 1), .ref (mm 2), .ref (mm 3), .ref (mm 4), .ref (mm 5), .int 0, .int 0, .int 0, .int 0, .int 0, .long 0, .int 0, .int 0, .int 0, .int (-1), .ref (mm 6), .ref (mm 7), .ref (mm 8), .ref (mm 9), .ref (mm 10), .ref (mm 11), .ref (mm 12), .ref (mm 13), .int 0, .ref (mm 14), .ref (mm 15), .ref (mm 16), .ref (mm 17), .int 0, .int 0, .int 0, .ref (mm 18), .ref (mm 19), .int 0, .int 0, .ref (mm 20), .ref (mm 21), .ref (mm 22), .int 0, .int 0, .int 0, .int 0, .ref (mm 23), .ref (mm 24), .ref (mm 25), .int 0])), ((mm 7), .inl (E.2.2 0, 25, .inl (fun _ => 0)))]) (aX9_person_41 E q1 (bb 16) (bb 17) (bb 1) (bb 36) (bb 37) (bb 40) (bb 46) (bb 49) (bb 52) (bb 54) (bb 30) (bb 31) (bb 32) (bb 33) (bb 34) (bb 35) (bb 18) (bb 19) (bb 20) (bb 21) (bb 22) (bb 23) (bb 24) (bb 25) (bb 26) (bb 27) (bb 28) (bb 29) (xs 1) (xs 2)) mp_lkL_32 0 rfl [0, 16, 17] [58, 65] rfl rfl rfl rfl rfl ⟨(Nat.le_of_ble_eq_true rfl), (Nat.le_of_ble_eq_true rfl), (Nat.le_of_ble_eq_true rfl), (Nat.le_of_ble_eq_true rfl)⟩ (Nat.le_of_ble_eq_true rfl) (by decide +kernel) (fun v5 w6 h7 => ?_)
  obtain ⟨rfl, rfl⟩ := h7
  show mp_W E X 4 424 [(3, .int 0), (2, .ref q2), (1, .ref q1), (0, .ref b)] [.int (-2)] [(q2, .inr (10, [.int 0, .ref (mm 1), .ref (mm 2), .ref (mm 3), .ref (mm 4), .ref (mm 5), .int 0, .int 0, .int 0, .int 0, .int 0, .long 0, .int 0, .int 0, .int 0, .int (-1), .ref (mm 6), .ref (mm 7), .ref (mm 8), .ref (mm 9), .ref (mm 10), .ref (mm 11), .ref (mm 12), .ref (mm 13), .int 0, .ref (mm 14), .ref (mm 15), .ref (mm 16), .ref (mm 17), .int 0, .int 0, .int 0, .ref (mm 18), .ref (mm 19), .int 0, .int 0, .ref (mm 20), .ref (mm 21), .ref (mm 22), .int 0, .int 0, .int 0, .int 0, .ref (mm 23), .ref (mm 24), .ref (mm 25), .int 0])), ((mm 7), .inl (E.2.2 0, 25, .inl (fun _ => 0)))] 84 11441
  refine mp_run hF mp_tabL_ok [mp_i (.aload_n 2), mp_i (.aload_n 0), mp_i (.iload_n 3), mp_c (.iconst 1) 1, mp_i .iadd] (by decide +kernel) ?_
  intro z8 h9
  obtain rfl : z8 = 1 := h9.trans (by decide)
  show mp_W E X 4 429 [(3, .int 0), (2, .ref q2), (1, .ref q1), (0, .ref b)] [.int 1, .ref b, .ref q2, .int (-2)] [(q2, .inr (10, [.int 0, .ref (mm 1), .ref (mm 2), .ref (mm 3), .ref (mm 4), .ref (mm 5), .int 0, .int 0, .int 0, .int 0, .int 0, .long 0, .int 0, .int 0, .int 0, .int (-1), .ref (mm 6), .ref (mm 7), .ref (mm 8), .ref (mm 9), .ref (mm 10), .ref (mm 11), .ref (mm 12), .ref (mm 13), .int 0, .ref (mm 14), .ref (mm 15), .ref (mm 16), .ref (mm 17), .int 0, .int 0, .int 0, .ref (mm 18), .ref (mm 19), .int 0, .int 0, .ref (mm 20), .ref (mm 21), .ref (mm 22), .int 0, .int 0, .int 0, .int 0, .ref (mm 23), .ref (mm 24), .ref (mm 25), .int 0])), ((mm 7), .inl (E.2.2 0, 25, .inl (fun _ => 0)))] 84 11441
  refine mp_lsld hL 1 (by decide) (by decide) (by decide) (by decide +kernel) ?_
  show mp_W E X 4 430 [(3, .int 0), (2, .ref q2), (1, .ref q1), (0, .ref b)] [.int (xs 1), .ref q2, .int (-2)] [(q2, .inr (10, [.int 0, .ref (mm 1), .ref (mm 2), .ref (mm 3), .ref (mm 4), .ref (mm 5), .int 0, .int 0, .int 0, .int 0, .int 0, .long 0, .int 0, .int 0, .int 0, .int (-1), .ref (mm 6), .ref (mm 7), .ref (mm 8), .ref (mm 9), .ref (mm 10), .ref (mm 11), .ref (mm 12), .ref (mm 13), .int 0, .ref (mm 14), .ref (mm 15), .ref (mm 16), .ref (mm 17), .int 0, .int 0, .int 0, .ref (mm 18), .ref (mm 19), .int 0, .int 0, .ref (mm 20), .ref (mm 21), .ref (mm 22), .int 0, .int 0, .int 0, .int 0, .ref (mm 23), .ref (mm 24), .ref (mm 25), .int 0])), ((mm 7), .inl (E.2.2 0, 25, .inl (fun _ => 0)))] 84 11441
  refine mp_run hF mp_tabL_ok [mp_i (.aload_n 0), mp_i (.iload_n 3), mp_c (.iconst 2) 2, mp_i .iadd] (by decide +kernel) ?_
  intro z10 h11
  obtain rfl : z10 = 2 := h11.trans (by decide)
  show mp_W E X 4 434 [(3, .int 0), (2, .ref q2), (1, .ref q1), (0, .ref b)] [.int 2, .ref b, .int (xs 1), .ref q2, .int (-2)] [(q2, .inr (10, [.int 0, .ref (mm 1), .ref (mm 2), .ref (mm 3), .ref (mm 4), .ref (mm 5), .int 0, .int 0, .int 0, .int 0, .int 0, .long 0, .int 0, .int 0, .int 0, .int (-1), .ref (mm 6), .ref (mm 7), .ref (mm 8), .ref (mm 9), .ref (mm 10), .ref (mm 11), .ref (mm 12), .ref (mm 13), .int 0, .ref (mm 14), .ref (mm 15), .ref (mm 16), .ref (mm 17), .int 0, .int 0, .int 0, .ref (mm 18), .ref (mm 19), .int 0, .int 0, .ref (mm 20), .ref (mm 21), .ref (mm 22), .int 0, .int 0, .int 0, .int 0, .ref (mm 23), .ref (mm 24), .ref (mm 25), .int 0])), ((mm 7), .inl (E.2.2 0, 25, .inl (fun _ => 0)))] 84 11441
  refine mp_lsld hL 2 (by decide) (by decide) (by decide) (by decide +kernel) ?_
  show mp_W E X 4 435 [(3, .int 0), (2, .ref q2), (1, .ref q1), (0, .ref b)] [.int (xs 2), .int (xs 1), .ref q2, .int (-2)] [(q2, .inr (10, [.int 0, .ref (mm 1), .ref (mm 2), .ref (mm 3), .ref (mm 4), .ref (mm 5), .int 0, .int 0, .int 0, .int 0, .int 0, .long 0, .int 0, .int 0, .int 0, .int (-1), .ref (mm 6), .ref (mm 7), .ref (mm 8), .ref (mm 9), .ref (mm 10), .ref (mm 11), .ref (mm 12), .ref (mm 13), .int 0, .ref (mm 14), .ref (mm 15), .ref (mm 16), .ref (mm 17), .int 0, .int 0, .int 0, .ref (mm 18), .ref (mm 19), .int 0, .int 0, .ref (mm 20), .ref (mm 21), .ref (mm 22), .int 0, .int 0, .int 0, .int 0, .ref (mm 23), .ref (mm 24), .ref (mm 25), .int 0])), ((mm 7), .inl (E.2.2 0, 25, .inl (fun _ => 0)))] 84 11441
  refine mp_callV hF (As := [.int (xs 1), .int (xs 2)]) (rest := [.int (-2)]) (wr := []) (aX10_person_44 E q2 (mm 7) (mm 1) (mm 2) (mm 3) (mm 4) (mm 5) (mm 6) (mm 8) (mm 9) (mm 10) (mm 11) (mm 12) (mm 13) (mm 14) (mm 15) (mm 16) (mm 17) (mm 18) (mm 19) (mm 20) (mm 21) (mm 22) (mm 23) (mm 24) (mm 25) (xs 1) (xs 2)) mp_lkL_36 0 rfl [0, 1] [] rfl rfl rfl rfl rfl ⟨(Nat.le_of_ble_eq_true rfl), (Nat.le_of_ble_eq_true rfl), (Nat.le_of_ble_eq_true rfl), (Nat.le_of_ble_eq_true rfl)⟩ (Nat.le_of_ble_eq_true rfl) (by decide +kernel) (fun v12 w13 h14 => ?_)
  obtain ⟨rfl, rfl⟩ := h14
  show mp_W E X 4 438 [(3, .int 0), (2, .ref q2), (1, .ref q1), (0, .ref b)] [.int (-2), .int (-2)] [] 84 11441
  refine mp_run hF mp_tabL_ok [mp_h (.if_icmp .eq 1781) [2219]] (by decide +kernel) ?_
  refine And.intro (fun _ => ?_) (fun c15 => absurd c15 (by decide))
  show mp_W E X 4 2219 [(3, .int 0), (2, .ref q2), (1, .ref q1), (0, .ref b)] [] [] 84 11441
  exact mp_sub [3, 0] rfl [] rfl rfl (mp_lw_next hL (Nat.le_of_ble_eq_true rfl) (Nat.le_of_ble_eq_true rfl))

set_option maxHeartbeats 4000000 in
set_option maxRecDepth 100000 in
theorem mp_case_5 {E : mp_E} {X : mp_X} {b : Nat} {xs : Nat → Int32} (hL : mp_Lw E X b 6 xs) (q1 q2 : Nat) (bb mm : Nat → Nat) (vs ln wd : Nat → Int32) (hln : ∀ j, j < 4 → ln j = -1) (hwd : ∀ j, j < 4 → wd j = -1) : mp_W E X 4 443 [(3, .int 0), (2, .ref q2), (1, .ref q1), (0, .ref b)] [] (mp_w0 E q1 q2 bb mm vs ln wd) 84 11441 := by
  have hF : mp_F E X (RL, code, 4, (2048, 600000, 7302250, 84000), ret, false) := hL.1
  show mp_W E X 4 443 [(3, .int 0), (2, .ref q2), (1, .ref q1), (0, .ref b)] [] (mp_w0 E q1 q2 bb mm vs ln wd) 84 11441
  refine mp_run hF mp_tabL_ok [mp_i (.aload_n 1), mp_i (.aload_n 0), mp_i (.iload_n 3), mp_c (.iconst 1) 1, mp_i .iadd] (by decide +kernel) ?_
  intro z1 h2
  obtain rfl : z1 = 1 := h2.trans (by decide)
  show mp_W E X 4 448 [(3, .int 0), (2, .ref q2), (1, .ref q1), (0, .ref b)] [.int 1, .ref b, .ref q1] (mp_w0 E q1 q2 bb mm vs ln wd) 84 11441
  refine mp_lsld hL 1 (by decide) (by decide) (by decide) (by decide +kernel) ?_
  show mp_W E X 4 449 [(3, .int 0), (2, .ref q2), (1, .ref q1), (0, .ref b)] [.int (xs 1), .ref q1] (mp_w0 E q1 q2 bb mm vs ln wd) 84 11441
  refine mp_run hF mp_tabL_ok [mp_i (.aload_n 0), mp_i (.iload_n 3), mp_c (.iconst 2) 2, mp_i .iadd] (by decide +kernel) ?_
  intro z3 h4
  obtain rfl : z3 = 2 := h4.trans (by decide)
  show mp_W E X 4 453 [(3, .int 0), (2, .ref q2), (1, .ref q1), (0, .ref b)] [.int 2, .ref b, .int (xs 1), .ref q1] (mp_w0 E q1 q2 bb mm vs ln wd) 84 11441
  refine mp_lsld hL 2 (by decide) (by decide) (by decide) (by decide +kernel) ?_
  show mp_W E X 4 454 [(3, .int 0), (2, .ref q2), (1, .ref q1), (0, .ref b)] [.int (xs 2), .int (xs 1), .ref q1] (mp_w0 E q1 q2 bb mm vs ln wd) 84 11441
  refine mp_callV hF (As := [.int (xs 1), .int (xs 2)]) (rest := []) (wr := [(q2, .inr (10, [.int 0, .ref (mm 1), .ref (mm 2), .ref (mm 3), .ref (mm 4), .ref (mm 5), .int 0, .int 0, .int 0, .int 0, .int 0, .long 0, .int 0, .int 0, .int 0, .int (-1), .ref (mm 6), .ref (mm 7), .ref (mm 8), .ref (mm 9), .ref (mm 10), .ref (mm 11), .ref (mm 12), .ref (mm 13), .int 0, .ref (mm 14), .ref (mm 15), .ref (mm 16), .ref (mm 17), .int 0, .int 0, .int 0, .ref (mm 18), .ref (mm 19), .int 0, .int 0, .ref (mm 20), .ref (mm 21), .ref (mm 22), .int 0, .int 0, .int 0, .int 0, .ref (mm 23), .ref (mm 24), .ref (mm 25), .int 0])), ((mm 7), .inl (E.2.2 0, 25, .inl (fun _ => 0)))]) (aX9_promise_46 E q1 (bb 16) (bb 17) (bb 1) (bb 36) (bb 37) (bb 40) (bb 46) (bb 49) (bb 52) (bb 54) (bb 30) (bb 31) (bb 32) (bb 33) (bb 34) (bb 35) (bb 18) (bb 19) (bb 20) (bb 21) (bb 22) (bb 23) (bb 24) (bb 25) (bb 26) (bb 27) (bb 28) (bb 29) (xs 1) (xs 2)) mp_lkL_37 0 rfl [0, 16, 17] [58, 65] rfl rfl rfl rfl rfl ⟨(Nat.le_of_ble_eq_true rfl), (Nat.le_of_ble_eq_true rfl), (Nat.le_of_ble_eq_true rfl), (Nat.le_of_ble_eq_true rfl)⟩ (Nat.le_of_ble_eq_true rfl) (by decide +kernel) (fun v5 w6 h7 => ?_)
  obtain ⟨rfl, rfl⟩ := h7
  show mp_W E X 4 457 [(3, .int 0), (2, .ref q2), (1, .ref q1), (0, .ref b)] [.int (-2)] [(q2, .inr (10, [.int 0, .ref (mm 1), .ref (mm 2), .ref (mm 3), .ref (mm 4), .ref (mm 5), .int 0, .int 0, .int 0, .int 0, .int 0, .long 0, .int 0, .int 0, .int 0, .int (-1), .ref (mm 6), .ref (mm 7), .ref (mm 8), .ref (mm 9), .ref (mm 10), .ref (mm 11), .ref (mm 12), .ref (mm 13), .int 0, .ref (mm 14), .ref (mm 15), .ref (mm 16), .ref (mm 17), .int 0, .int 0, .int 0, .ref (mm 18), .ref (mm 19), .int 0, .int 0, .ref (mm 20), .ref (mm 21), .ref (mm 22), .int 0, .int 0, .int 0, .int 0, .ref (mm 23), .ref (mm 24), .ref (mm 25), .int 0])), ((mm 7), .inl (E.2.2 0, 25, .inl (fun _ => 0)))] 84 11441
  refine mp_run hF mp_tabL_ok [mp_i (.aload_n 2), mp_i (.aload_n 0), mp_i (.iload_n 3), mp_c (.iconst 1) 1, mp_i .iadd] (by decide +kernel) ?_
  intro z8 h9
  obtain rfl : z8 = 1 := h9.trans (by decide)
  show mp_W E X 4 462 [(3, .int 0), (2, .ref q2), (1, .ref q1), (0, .ref b)] [.int 1, .ref b, .ref q2, .int (-2)] [(q2, .inr (10, [.int 0, .ref (mm 1), .ref (mm 2), .ref (mm 3), .ref (mm 4), .ref (mm 5), .int 0, .int 0, .int 0, .int 0, .int 0, .long 0, .int 0, .int 0, .int 0, .int (-1), .ref (mm 6), .ref (mm 7), .ref (mm 8), .ref (mm 9), .ref (mm 10), .ref (mm 11), .ref (mm 12), .ref (mm 13), .int 0, .ref (mm 14), .ref (mm 15), .ref (mm 16), .ref (mm 17), .int 0, .int 0, .int 0, .ref (mm 18), .ref (mm 19), .int 0, .int 0, .ref (mm 20), .ref (mm 21), .ref (mm 22), .int 0, .int 0, .int 0, .int 0, .ref (mm 23), .ref (mm 24), .ref (mm 25), .int 0])), ((mm 7), .inl (E.2.2 0, 25, .inl (fun _ => 0)))] 84 11441
  refine mp_lsld hL 1 (by decide) (by decide) (by decide) (by decide +kernel) ?_
  show mp_W E X 4 463 [(3, .int 0), (2, .ref q2), (1, .ref q1), (0, .ref b)] [.int (xs 1), .ref q2, .int (-2)] [(q2, .inr (10, [.int 0, .ref (mm 1), .ref (mm 2), .ref (mm 3), .ref (mm 4), .ref (mm 5), .int 0, .int 0, .int 0, .int 0, .int 0, .long 0, .int 0, .int 0, .int 0, .int (-1), .ref (mm 6), .ref (mm 7), .ref (mm 8), .ref (mm 9), .ref (mm 10), .ref (mm 11), .ref (mm 12), .ref (mm 13), .int 0, .ref (mm 14), .ref (mm 15), .ref (mm 16), .ref (mm 17), .int 0, .int 0, .int 0, .ref (mm 18), .ref (mm 19), .int 0, .int 0, .ref (mm 20), .ref (mm 21), .ref (mm 22), .int 0, .int 0, .int 0, .int 0, .ref (mm 23), .ref (mm 24), .ref (mm 25), .int 0])), ((mm 7), .inl (E.2.2 0, 25, .inl (fun _ => 0)))] 84 11441
  refine mp_run hF mp_tabL_ok [mp_i (.aload_n 0), mp_i (.iload_n 3), mp_c (.iconst 2) 2, mp_i .iadd] (by decide +kernel) ?_
  intro z10 h11
  obtain rfl : z10 = 2 := h11.trans (by decide)
  show mp_W E X 4 467 [(3, .int 0), (2, .ref q2), (1, .ref q1), (0, .ref b)] [.int 2, .ref b, .int (xs 1), .ref q2, .int (-2)] [(q2, .inr (10, [.int 0, .ref (mm 1), .ref (mm 2), .ref (mm 3), .ref (mm 4), .ref (mm 5), .int 0, .int 0, .int 0, .int 0, .int 0, .long 0, .int 0, .int 0, .int 0, .int (-1), .ref (mm 6), .ref (mm 7), .ref (mm 8), .ref (mm 9), .ref (mm 10), .ref (mm 11), .ref (mm 12), .ref (mm 13), .int 0, .ref (mm 14), .ref (mm 15), .ref (mm 16), .ref (mm 17), .int 0, .int 0, .int 0, .ref (mm 18), .ref (mm 19), .int 0, .int 0, .ref (mm 20), .ref (mm 21), .ref (mm 22), .int 0, .int 0, .int 0, .int 0, .ref (mm 23), .ref (mm 24), .ref (mm 25), .int 0])), ((mm 7), .inl (E.2.2 0, 25, .inl (fun _ => 0)))] 84 11441
  refine mp_lsld hL 2 (by decide) (by decide) (by decide) (by decide +kernel) ?_
  show mp_W E X 4 468 [(3, .int 0), (2, .ref q2), (1, .ref q1), (0, .ref b)] [.int (xs 2), .int (xs 1), .ref q2, .int (-2)] [(q2, .inr (10, [.int 0, .ref (mm 1), .ref (mm 2), .ref (mm 3), .ref (mm 4), .ref (mm 5), .int 0, .int 0, .int 0, .int 0, .int 0, .long 0, .int 0, .int 0, .int 0, .int (-1), .ref (mm 6), .ref (mm 7), .ref (mm 8), .ref (mm 9), .ref (mm 10), .ref (mm 11), .ref (mm 12), .ref (mm 13), .int 0, .ref (mm 14), .ref (mm 15), .ref (mm 16), .ref (mm 17), .int 0, .int 0, .int 0, .ref (mm 18), .ref (mm 19), .int 0, .int 0, .ref (mm 20), .ref (mm 21), .ref (mm 22), .int 0, .int 0, .int 0, .int 0, .ref (mm 23), .ref (mm 24), .ref (mm 25), .int 0])), ((mm 7), .inl (E.2.2 0, 25, .inl (fun _ => 0)))] 84 11441
  refine mp_callV hF (As := [.int (xs 1), .int (xs 2)]) (rest := [.int (-2)]) (wr := []) (aX10_promise_48 E q2 (mm 7) (mm 1) (mm 2) (mm 3) (mm 4) (mm 5) (mm 6) (mm 8) (mm 9) (mm 10) (mm 11) (mm 12) (mm 13) (mm 14) (mm 15) (mm 16) (mm 17) (mm 18) (mm 19) (mm 20) (mm 21) (mm 22) (mm 23) (mm 24) (mm 25) (xs 1) (xs 2)) mp_lkL_40 0 rfl [0, 1] [] rfl rfl rfl rfl rfl ⟨(Nat.le_of_ble_eq_true rfl), (Nat.le_of_ble_eq_true rfl), (Nat.le_of_ble_eq_true rfl), (Nat.le_of_ble_eq_true rfl)⟩ (Nat.le_of_ble_eq_true rfl) (by decide +kernel) (fun v12 w13 h14 => ?_)
  obtain ⟨rfl, rfl⟩ := h14
  show mp_W E X 4 471 [(3, .int 0), (2, .ref q2), (1, .ref q1), (0, .ref b)] [.int (-2), .int (-2)] [] 84 11441
  refine mp_run hF mp_tabL_ok [mp_h (.if_icmp .eq 1748) [2219]] (by decide +kernel) ?_
  refine And.intro (fun _ => ?_) (fun c15 => absurd c15 (by decide))
  show mp_W E X 4 2219 [(3, .int 0), (2, .ref q2), (1, .ref q1), (0, .ref b)] [] [] 84 11441
  exact mp_sub [3, 0] rfl [] rfl rfl (mp_lw_next hL (Nat.le_of_ble_eq_true rfl) (Nat.le_of_ble_eq_true rfl))

set_option maxHeartbeats 4000000 in
set_option maxRecDepth 100000 in
theorem mp_case_6 {E : mp_E} {X : mp_X} {b : Nat} {xs : Nat → Int32} (hL : mp_Lw E X b 6 xs) (q1 q2 : Nat) (bb mm : Nat → Nat) (vs ln wd : Nat → Int32) (hln : ∀ j, j < 4 → ln j = -1) (hwd : ∀ j, j < 4 → wd j = -1) : mp_W E X 4 476 [(3, .int 0), (2, .ref q2), (1, .ref q1), (0, .ref b)] [] (mp_w0 E q1 q2 bb mm vs ln wd) 84 11441 := by
  have hF : mp_F E X (RL, code, 4, (2048, 600000, 7302250, 84000), ret, false) := hL.1
  show mp_W E X 4 476 [(3, .int 0), (2, .ref q2), (1, .ref q1), (0, .ref b)] [] (mp_w0 E q1 q2 bb mm vs ln wd) 84 11441
  refine mp_run hF mp_tabL_ok [mp_i (.aload_n 1), mp_i (.aload_n 0), mp_i (.iload_n 3), mp_c (.iconst 1) 1, mp_i .iadd] (by decide +kernel) ?_
  intro z1 h2
  obtain rfl : z1 = 1 := h2.trans (by decide)
  show mp_W E X 4 481 [(3, .int 0), (2, .ref q2), (1, .ref q1), (0, .ref b)] [.int 1, .ref b, .ref q1] (mp_w0 E q1 q2 bb mm vs ln wd) 84 11441
  refine mp_lsld hL 1 (by decide) (by decide) (by decide) (by decide +kernel) ?_
  show mp_W E X 4 482 [(3, .int 0), (2, .ref q2), (1, .ref q1), (0, .ref b)] [.int (xs 1), .ref q1] (mp_w0 E q1 q2 bb mm vs ln wd) 84 11441
  refine mp_run hF mp_tabL_ok [mp_i (.aload_n 0), mp_i (.iload_n 3), mp_c (.iconst 2) 2, mp_i .iadd] (by decide +kernel) ?_
  intro z3 h4
  obtain rfl : z3 = 2 := h4.trans (by decide)
  show mp_W E X 4 486 [(3, .int 0), (2, .ref q2), (1, .ref q1), (0, .ref b)] [.int 2, .ref b, .int (xs 1), .ref q1] (mp_w0 E q1 q2 bb mm vs ln wd) 84 11441
  refine mp_lsld hL 2 (by decide) (by decide) (by decide) (by decide +kernel) ?_
  show mp_W E X 4 487 [(3, .int 0), (2, .ref q2), (1, .ref q1), (0, .ref b)] [.int (xs 2), .int (xs 1), .ref q1] (mp_w0 E q1 q2 bb mm vs ln wd) 84 11441
  refine mp_callV hF (As := [.int (xs 1), .int (xs 2)]) (rest := []) (wr := [(q2, .inr (10, [.int 0, .ref (mm 1), .ref (mm 2), .ref (mm 3), .ref (mm 4), .ref (mm 5), .int 0, .int 0, .int 0, .int 0, .int 0, .long 0, .int 0, .int 0, .int 0, .int (-1), .ref (mm 6), .ref (mm 7), .ref (mm 8), .ref (mm 9), .ref (mm 10), .ref (mm 11), .ref (mm 12), .ref (mm 13), .int 0, .ref (mm 14), .ref (mm 15), .ref (mm 16), .ref (mm 17), .int 0, .int 0, .int 0, .ref (mm 18), .ref (mm 19), .int 0, .int 0, .ref (mm 20), .ref (mm 21), .ref (mm 22), .int 0, .int 0, .int 0, .int 0, .ref (mm 23), .ref (mm 24), .ref (mm 25), .int 0])), ((mm 7), .inl (E.2.2 0, 25, .inl (fun _ => 0)))]) (aX9_sea_50 E q1 (bb 16) (bb 17) (bb 1) (bb 36) (bb 37) (bb 40) (bb 46) (bb 49) (bb 52) (bb 54) (bb 30) (bb 31) (bb 32) (bb 33) (bb 34) (bb 35) (bb 18) (bb 19) (bb 20) (bb 21) (bb 22) (bb 23) (bb 24) (bb 25) (bb 26) (bb 27) (bb 28) (bb 29) (xs 1) (xs 2)) mp_lkL_41 0 rfl [0, 16, 17] [58, 65] rfl rfl rfl rfl rfl ⟨(Nat.le_of_ble_eq_true rfl), (Nat.le_of_ble_eq_true rfl), (Nat.le_of_ble_eq_true rfl), (Nat.le_of_ble_eq_true rfl)⟩ (Nat.le_of_ble_eq_true rfl) (by decide +kernel) (fun v5 w6 h7 => ?_)
  obtain ⟨rfl, rfl⟩ := h7
  show mp_W E X 4 490 [(3, .int 0), (2, .ref q2), (1, .ref q1), (0, .ref b)] [.int (-2)] [(q2, .inr (10, [.int 0, .ref (mm 1), .ref (mm 2), .ref (mm 3), .ref (mm 4), .ref (mm 5), .int 0, .int 0, .int 0, .int 0, .int 0, .long 0, .int 0, .int 0, .int 0, .int (-1), .ref (mm 6), .ref (mm 7), .ref (mm 8), .ref (mm 9), .ref (mm 10), .ref (mm 11), .ref (mm 12), .ref (mm 13), .int 0, .ref (mm 14), .ref (mm 15), .ref (mm 16), .ref (mm 17), .int 0, .int 0, .int 0, .ref (mm 18), .ref (mm 19), .int 0, .int 0, .ref (mm 20), .ref (mm 21), .ref (mm 22), .int 0, .int 0, .int 0, .int 0, .ref (mm 23), .ref (mm 24), .ref (mm 25), .int 0])), ((mm 7), .inl (E.2.2 0, 25, .inl (fun _ => 0)))] 84 11441
  refine mp_run hF mp_tabL_ok [mp_i (.aload_n 2), mp_i (.aload_n 0), mp_i (.iload_n 3), mp_c (.iconst 1) 1, mp_i .iadd] (by decide +kernel) ?_
  intro z8 h9
  obtain rfl : z8 = 1 := h9.trans (by decide)
  show mp_W E X 4 495 [(3, .int 0), (2, .ref q2), (1, .ref q1), (0, .ref b)] [.int 1, .ref b, .ref q2, .int (-2)] [(q2, .inr (10, [.int 0, .ref (mm 1), .ref (mm 2), .ref (mm 3), .ref (mm 4), .ref (mm 5), .int 0, .int 0, .int 0, .int 0, .int 0, .long 0, .int 0, .int 0, .int 0, .int (-1), .ref (mm 6), .ref (mm 7), .ref (mm 8), .ref (mm 9), .ref (mm 10), .ref (mm 11), .ref (mm 12), .ref (mm 13), .int 0, .ref (mm 14), .ref (mm 15), .ref (mm 16), .ref (mm 17), .int 0, .int 0, .int 0, .ref (mm 18), .ref (mm 19), .int 0, .int 0, .ref (mm 20), .ref (mm 21), .ref (mm 22), .int 0, .int 0, .int 0, .int 0, .ref (mm 23), .ref (mm 24), .ref (mm 25), .int 0])), ((mm 7), .inl (E.2.2 0, 25, .inl (fun _ => 0)))] 84 11441
  refine mp_lsld hL 1 (by decide) (by decide) (by decide) (by decide +kernel) ?_
  show mp_W E X 4 496 [(3, .int 0), (2, .ref q2), (1, .ref q1), (0, .ref b)] [.int (xs 1), .ref q2, .int (-2)] [(q2, .inr (10, [.int 0, .ref (mm 1), .ref (mm 2), .ref (mm 3), .ref (mm 4), .ref (mm 5), .int 0, .int 0, .int 0, .int 0, .int 0, .long 0, .int 0, .int 0, .int 0, .int (-1), .ref (mm 6), .ref (mm 7), .ref (mm 8), .ref (mm 9), .ref (mm 10), .ref (mm 11), .ref (mm 12), .ref (mm 13), .int 0, .ref (mm 14), .ref (mm 15), .ref (mm 16), .ref (mm 17), .int 0, .int 0, .int 0, .ref (mm 18), .ref (mm 19), .int 0, .int 0, .ref (mm 20), .ref (mm 21), .ref (mm 22), .int 0, .int 0, .int 0, .int 0, .ref (mm 23), .ref (mm 24), .ref (mm 25), .int 0])), ((mm 7), .inl (E.2.2 0, 25, .inl (fun _ => 0)))] 84 11441
  refine mp_run hF mp_tabL_ok [mp_i (.aload_n 0), mp_i (.iload_n 3), mp_c (.iconst 2) 2, mp_i .iadd] (by decide +kernel) ?_
  intro z10 h11
  obtain rfl : z10 = 2 := h11.trans (by decide)
  show mp_W E X 4 500 [(3, .int 0), (2, .ref q2), (1, .ref q1), (0, .ref b)] [.int 2, .ref b, .int (xs 1), .ref q2, .int (-2)] [(q2, .inr (10, [.int 0, .ref (mm 1), .ref (mm 2), .ref (mm 3), .ref (mm 4), .ref (mm 5), .int 0, .int 0, .int 0, .int 0, .int 0, .long 0, .int 0, .int 0, .int 0, .int (-1), .ref (mm 6), .ref (mm 7), .ref (mm 8), .ref (mm 9), .ref (mm 10), .ref (mm 11), .ref (mm 12), .ref (mm 13), .int 0, .ref (mm 14), .ref (mm 15), .ref (mm 16), .ref (mm 17), .int 0, .int 0, .int 0, .ref (mm 18), .ref (mm 19), .int 0, .int 0, .ref (mm 20), .ref (mm 21), .ref (mm 22), .int 0, .int 0, .int 0, .int 0, .ref (mm 23), .ref (mm 24), .ref (mm 25), .int 0])), ((mm 7), .inl (E.2.2 0, 25, .inl (fun _ => 0)))] 84 11441
  refine mp_lsld hL 2 (by decide) (by decide) (by decide) (by decide +kernel) ?_
  show mp_W E X 4 501 [(3, .int 0), (2, .ref q2), (1, .ref q1), (0, .ref b)] [.int (xs 2), .int (xs 1), .ref q2, .int (-2)] [(q2, .inr (10, [.int 0, .ref (mm 1), .ref (mm 2), .ref (mm 3), .ref (mm 4), .ref (mm 5), .int 0, .int 0, .int 0, .int 0, .int 0, .long 0, .int 0, .int 0, .int 0, .int (-1), .ref (mm 6), .ref (mm 7), .ref (mm 8), .ref (mm 9), .ref (mm 10), .ref (mm 11), .ref (mm 12), .ref (mm 13), .int 0, .ref (mm 14), .ref (mm 15), .ref (mm 16), .ref (mm 17), .int 0, .int 0, .int 0, .ref (mm 18), .ref (mm 19), .int 0, .int 0, .ref (mm 20), .ref (mm 21), .ref (mm 22), .int 0, .int 0, .int 0, .int 0, .ref (mm 23), .ref (mm 24), .ref (mm 25), .int 0])), ((mm 7), .inl (E.2.2 0, 25, .inl (fun _ => 0)))] 84 11441
  refine mp_callV hF (As := [.int (xs 1), .int (xs 2)]) (rest := [.int (-2)]) (wr := []) (aX10_sea_52 E q2 (mm 7) (mm 1) (mm 2) (mm 3) (mm 4) (mm 5) (mm 6) (mm 8) (mm 9) (mm 10) (mm 11) (mm 12) (mm 13) (mm 14) (mm 15) (mm 16) (mm 17) (mm 18) (mm 19) (mm 20) (mm 21) (mm 22) (mm 23) (mm 24) (mm 25) (xs 1) (xs 2)) mp_lkL_44 0 rfl [0, 1] [] rfl rfl rfl rfl rfl ⟨(Nat.le_of_ble_eq_true rfl), (Nat.le_of_ble_eq_true rfl), (Nat.le_of_ble_eq_true rfl), (Nat.le_of_ble_eq_true rfl)⟩ (Nat.le_of_ble_eq_true rfl) (by decide +kernel) (fun v12 w13 h14 => ?_)
  obtain ⟨rfl, rfl⟩ := h14
  show mp_W E X 4 504 [(3, .int 0), (2, .ref q2), (1, .ref q1), (0, .ref b)] [.int (-2), .int (-2)] [] 84 11441
  refine mp_run hF mp_tabL_ok [mp_h (.if_icmp .eq 1715) [2219]] (by decide +kernel) ?_
  refine And.intro (fun _ => ?_) (fun c15 => absurd c15 (by decide))
  show mp_W E X 4 2219 [(3, .int 0), (2, .ref q2), (1, .ref q1), (0, .ref b)] [] [] 84 11441
  exact mp_sub [3, 0] rfl [] rfl rfl (mp_lw_next hL (Nat.le_of_ble_eq_true rfl) (Nat.le_of_ble_eq_true rfl))

set_option maxHeartbeats 4000000 in
set_option maxRecDepth 100000 in
theorem mp_case_7 {E : mp_E} {X : mp_X} {b : Nat} {xs : Nat → Int32} (hL : mp_Lw E X b 6 xs) (q1 q2 : Nat) (bb mm : Nat → Nat) (vs ln wd : Nat → Int32) (hln : ∀ j, j < 4 → ln j = -1) (hwd : ∀ j, j < 4 → wd j = -1) : mp_W E X 4 509 [(3, .int 0), (2, .ref q2), (1, .ref q1), (0, .ref b)] [] (mp_w0 E q1 q2 bb mm vs ln wd) 84 11441 := by
  have hF : mp_F E X (RL, code, 4, (2048, 600000, 7302250, 84000), ret, false) := hL.1
  show mp_W E X 4 509 [(3, .int 0), (2, .ref q2), (1, .ref q1), (0, .ref b)] [] (mp_w0 E q1 q2 bb mm vs ln wd) 84 11441
  refine mp_run hF mp_tabL_ok [mp_i (.aload_n 1), mp_i (.aload_n 0), mp_i (.iload_n 3), mp_c (.iconst 1) 1, mp_i .iadd] (by decide +kernel) ?_
  intro z1 h2
  obtain rfl : z1 = 1 := h2.trans (by decide)
  show mp_W E X 4 514 [(3, .int 0), (2, .ref q2), (1, .ref q1), (0, .ref b)] [.int 1, .ref b, .ref q1] (mp_w0 E q1 q2 bb mm vs ln wd) 84 11441
  refine mp_lsld hL 1 (by decide) (by decide) (by decide) (by decide +kernel) ?_
  show mp_W E X 4 515 [(3, .int 0), (2, .ref q2), (1, .ref q1), (0, .ref b)] [.int (xs 1), .ref q1] (mp_w0 E q1 q2 bb mm vs ln wd) 84 11441
  refine mp_run hF mp_tabL_ok [mp_i (.aload_n 0), mp_i (.iload_n 3), mp_c (.iconst 2) 2, mp_i .iadd] (by decide +kernel) ?_
  intro z3 h4
  obtain rfl : z3 = 2 := h4.trans (by decide)
  show mp_W E X 4 519 [(3, .int 0), (2, .ref q2), (1, .ref q1), (0, .ref b)] [.int 2, .ref b, .int (xs 1), .ref q1] (mp_w0 E q1 q2 bb mm vs ln wd) 84 11441
  refine mp_lsld hL 2 (by decide) (by decide) (by decide) (by decide +kernel) ?_
  show mp_W E X 4 520 [(3, .int 0), (2, .ref q2), (1, .ref q1), (0, .ref b)] [.int (xs 2), .int (xs 1), .ref q1] (mp_w0 E q1 q2 bb mm vs ln wd) 84 11441
  refine mp_callV hF (As := [.int (xs 1), .int (xs 2)]) (rest := []) (wr := [(q2, .inr (10, [.int 0, .ref (mm 1), .ref (mm 2), .ref (mm 3), .ref (mm 4), .ref (mm 5), .int 0, .int 0, .int 0, .int 0, .int 0, .long 0, .int 0, .int 0, .int 0, .int (-1), .ref (mm 6), .ref (mm 7), .ref (mm 8), .ref (mm 9), .ref (mm 10), .ref (mm 11), .ref (mm 12), .ref (mm 13), .int 0, .ref (mm 14), .ref (mm 15), .ref (mm 16), .ref (mm 17), .int 0, .int 0, .int 0, .ref (mm 18), .ref (mm 19), .int 0, .int 0, .ref (mm 20), .ref (mm 21), .ref (mm 22), .int 0, .int 0, .int 0, .int 0, .ref (mm 23), .ref (mm 24), .ref (mm 25), .int 0])), ((mm 7), .inl (E.2.2 0, 25, .inl (fun _ => 0)))]) (aX9_open_53 E q1 (bb 16) (bb 17) (bb 1) (bb 36) (bb 37) (bb 40) (bb 46) (bb 49) (bb 52) (bb 54) (bb 30) (bb 31) (bb 32) (bb 33) (bb 34) (bb 35) (bb 18) (bb 19) (bb 20) (bb 21) (bb 22) (bb 23) (bb 24) (bb 25) (bb 26) (bb 27) (bb 28) (bb 29) (xs 1) (xs 2)) mp_lkL_45 0 rfl [0, 16, 17] [58, 65] rfl rfl rfl rfl rfl ⟨(Nat.le_of_ble_eq_true rfl), (Nat.le_of_ble_eq_true rfl), (Nat.le_of_ble_eq_true rfl), (Nat.le_of_ble_eq_true rfl)⟩ (Nat.le_of_ble_eq_true rfl) (by decide +kernel) (fun v5 w6 h7 => ?_)
  obtain ⟨rfl, rfl⟩ := h7
  show mp_W E X 4 523 [(3, .int 0), (2, .ref q2), (1, .ref q1), (0, .ref b)] [.int (-2)] [(q2, .inr (10, [.int 0, .ref (mm 1), .ref (mm 2), .ref (mm 3), .ref (mm 4), .ref (mm 5), .int 0, .int 0, .int 0, .int 0, .int 0, .long 0, .int 0, .int 0, .int 0, .int (-1), .ref (mm 6), .ref (mm 7), .ref (mm 8), .ref (mm 9), .ref (mm 10), .ref (mm 11), .ref (mm 12), .ref (mm 13), .int 0, .ref (mm 14), .ref (mm 15), .ref (mm 16), .ref (mm 17), .int 0, .int 0, .int 0, .ref (mm 18), .ref (mm 19), .int 0, .int 0, .ref (mm 20), .ref (mm 21), .ref (mm 22), .int 0, .int 0, .int 0, .int 0, .ref (mm 23), .ref (mm 24), .ref (mm 25), .int 0])), ((mm 7), .inl (E.2.2 0, 25, .inl (fun _ => 0)))] 84 11441
  refine mp_run hF mp_tabL_ok [mp_i (.aload_n 2), mp_i (.aload_n 0), mp_i (.iload_n 3), mp_c (.iconst 1) 1, mp_i .iadd] (by decide +kernel) ?_
  intro z8 h9
  obtain rfl : z8 = 1 := h9.trans (by decide)
  show mp_W E X 4 528 [(3, .int 0), (2, .ref q2), (1, .ref q1), (0, .ref b)] [.int 1, .ref b, .ref q2, .int (-2)] [(q2, .inr (10, [.int 0, .ref (mm 1), .ref (mm 2), .ref (mm 3), .ref (mm 4), .ref (mm 5), .int 0, .int 0, .int 0, .int 0, .int 0, .long 0, .int 0, .int 0, .int 0, .int (-1), .ref (mm 6), .ref (mm 7), .ref (mm 8), .ref (mm 9), .ref (mm 10), .ref (mm 11), .ref (mm 12), .ref (mm 13), .int 0, .ref (mm 14), .ref (mm 15), .ref (mm 16), .ref (mm 17), .int 0, .int 0, .int 0, .ref (mm 18), .ref (mm 19), .int 0, .int 0, .ref (mm 20), .ref (mm 21), .ref (mm 22), .int 0, .int 0, .int 0, .int 0, .ref (mm 23), .ref (mm 24), .ref (mm 25), .int 0])), ((mm 7), .inl (E.2.2 0, 25, .inl (fun _ => 0)))] 84 11441
  refine mp_lsld hL 1 (by decide) (by decide) (by decide) (by decide +kernel) ?_
  show mp_W E X 4 529 [(3, .int 0), (2, .ref q2), (1, .ref q1), (0, .ref b)] [.int (xs 1), .ref q2, .int (-2)] [(q2, .inr (10, [.int 0, .ref (mm 1), .ref (mm 2), .ref (mm 3), .ref (mm 4), .ref (mm 5), .int 0, .int 0, .int 0, .int 0, .int 0, .long 0, .int 0, .int 0, .int 0, .int (-1), .ref (mm 6), .ref (mm 7), .ref (mm 8), .ref (mm 9), .ref (mm 10), .ref (mm 11), .ref (mm 12), .ref (mm 13), .int 0, .ref (mm 14), .ref (mm 15), .ref (mm 16), .ref (mm 17), .int 0, .int 0, .int 0, .ref (mm 18), .ref (mm 19), .int 0, .int 0, .ref (mm 20), .ref (mm 21), .ref (mm 22), .int 0, .int 0, .int 0, .int 0, .ref (mm 23), .ref (mm 24), .ref (mm 25), .int 0])), ((mm 7), .inl (E.2.2 0, 25, .inl (fun _ => 0)))] 84 11441
  refine mp_run hF mp_tabL_ok [mp_i (.aload_n 0), mp_i (.iload_n 3), mp_c (.iconst 2) 2, mp_i .iadd] (by decide +kernel) ?_
  intro z10 h11
  obtain rfl : z10 = 2 := h11.trans (by decide)
  show mp_W E X 4 533 [(3, .int 0), (2, .ref q2), (1, .ref q1), (0, .ref b)] [.int 2, .ref b, .int (xs 1), .ref q2, .int (-2)] [(q2, .inr (10, [.int 0, .ref (mm 1), .ref (mm 2), .ref (mm 3), .ref (mm 4), .ref (mm 5), .int 0, .int 0, .int 0, .int 0, .int 0, .long 0, .int 0, .int 0, .int 0, .int (-1), .ref (mm 6), .ref (mm 7), .ref (mm 8), .ref (mm 9), .ref (mm 10), .ref (mm 11), .ref (mm 12), .ref (mm 13), .int 0, .ref (mm 14), .ref (mm 15), .ref (mm 16), .ref (mm 17), .int 0, .int 0, .int 0, .ref (mm 18), .ref (mm 19), .int 0, .int 0, .ref (mm 20), .ref (mm 21), .ref (mm 22), .int 0, .int 0, .int 0, .int 0, .ref (mm 23), .ref (mm 24), .ref (mm 25), .int 0])), ((mm 7), .inl (E.2.2 0, 25, .inl (fun _ => 0)))] 84 11441
  refine mp_lsld hL 2 (by decide) (by decide) (by decide) (by decide +kernel) ?_
  show mp_W E X 4 534 [(3, .int 0), (2, .ref q2), (1, .ref q1), (0, .ref b)] [.int (xs 2), .int (xs 1), .ref q2, .int (-2)] [(q2, .inr (10, [.int 0, .ref (mm 1), .ref (mm 2), .ref (mm 3), .ref (mm 4), .ref (mm 5), .int 0, .int 0, .int 0, .int 0, .int 0, .long 0, .int 0, .int 0, .int 0, .int (-1), .ref (mm 6), .ref (mm 7), .ref (mm 8), .ref (mm 9), .ref (mm 10), .ref (mm 11), .ref (mm 12), .ref (mm 13), .int 0, .ref (mm 14), .ref (mm 15), .ref (mm 16), .ref (mm 17), .int 0, .int 0, .int 0, .ref (mm 18), .ref (mm 19), .int 0, .int 0, .ref (mm 20), .ref (mm 21), .ref (mm 22), .int 0, .int 0, .int 0, .int 0, .ref (mm 23), .ref (mm 24), .ref (mm 25), .int 0])), ((mm 7), .inl (E.2.2 0, 25, .inl (fun _ => 0)))] 84 11441
  refine mp_callV hF (As := [.int (xs 1), .int (xs 2)]) (rest := [.int (-2)]) (wr := []) (aX10_open_54 E q2 (mm 7) (mm 1) (mm 2) (mm 3) (mm 4) (mm 5) (mm 6) (mm 8) (mm 9) (mm 10) (mm 11) (mm 12) (mm 13) (mm 14) (mm 15) (mm 16) (mm 17) (mm 18) (mm 19) (mm 20) (mm 21) (mm 22) (mm 23) (mm 24) (mm 25) (xs 1) (xs 2)) mp_lkL_48 0 rfl [0, 1] [] rfl rfl rfl rfl rfl ⟨(Nat.le_of_ble_eq_true rfl), (Nat.le_of_ble_eq_true rfl), (Nat.le_of_ble_eq_true rfl), (Nat.le_of_ble_eq_true rfl)⟩ (Nat.le_of_ble_eq_true rfl) (by decide +kernel) (fun v12 w13 h14 => ?_)
  obtain ⟨rfl, rfl⟩ := h14
  show mp_W E X 4 537 [(3, .int 0), (2, .ref q2), (1, .ref q1), (0, .ref b)] [.int (-2), .int (-2)] [] 84 11441
  refine mp_run hF mp_tabL_ok [mp_h (.if_icmp .eq 1682) [2219]] (by decide +kernel) ?_
  refine And.intro (fun _ => ?_) (fun c15 => absurd c15 (by decide))
  show mp_W E X 4 2219 [(3, .int 0), (2, .ref q2), (1, .ref q1), (0, .ref b)] [] [] 84 11441
  exact mp_sub [3, 0] rfl [] rfl rfl (mp_lw_next hL (Nat.le_of_ble_eq_true rfl) (Nat.le_of_ble_eq_true rfl))

set_option maxHeartbeats 4000000 in
set_option maxRecDepth 100000 in
theorem mp_case_8 {E : mp_E} {X : mp_X} {b : Nat} {xs : Nat → Int32} (hL : mp_Lw E X b 6 xs) (q1 q2 : Nat) (bb mm : Nat → Nat) (vs ln wd : Nat → Int32) (hln : ∀ j, j < 4 → ln j = -1) (hwd : ∀ j, j < 4 → wd j = -1) : mp_W E X 4 542 [(3, .int 0), (2, .ref q2), (1, .ref q1), (0, .ref b)] [] (mp_w0 E q1 q2 bb mm vs ln wd) 84 11441 := by
  have hF : mp_F E X (RL, code, 4, (2048, 600000, 7302250, 84000), ret, false) := hL.1
  show mp_W E X 4 542 [(3, .int 0), (2, .ref q2), (1, .ref q1), (0, .ref b)] [] (mp_w0 E q1 q2 bb mm vs ln wd) 84 11441
  refine mp_run hF mp_tabL_ok [mp_i (.aload_n 1), mp_i (.aload_n 0), mp_i (.iload_n 3), mp_c (.iconst 1) 1, mp_i .iadd] (by decide +kernel) ?_
  intro z1 h2
  obtain rfl : z1 = 1 := h2.trans (by decide)
  show mp_W E X 4 547 [(3, .int 0), (2, .ref q2), (1, .ref q1), (0, .ref b)] [.int 1, .ref b, .ref q1] (mp_w0 E q1 q2 bb mm vs ln wd) 84 11441
  refine mp_lsld hL 1 (by decide) (by decide) (by decide) (by decide +kernel) ?_
  show mp_W E X 4 548 [(3, .int 0), (2, .ref q2), (1, .ref q1), (0, .ref b)] [.int (xs 1), .ref q1] (mp_w0 E q1 q2 bb mm vs ln wd) 84 11441
  refine mp_run hF mp_tabL_ok [mp_i (.aload_n 0), mp_i (.iload_n 3), mp_c (.iconst 2) 2, mp_i .iadd] (by decide +kernel) ?_
  intro z3 h4
  obtain rfl : z3 = 2 := h4.trans (by decide)
  show mp_W E X 4 552 [(3, .int 0), (2, .ref q2), (1, .ref q1), (0, .ref b)] [.int 2, .ref b, .int (xs 1), .ref q1] (mp_w0 E q1 q2 bb mm vs ln wd) 84 11441
  refine mp_lsld hL 2 (by decide) (by decide) (by decide) (by decide +kernel) ?_
  show mp_W E X 4 553 [(3, .int 0), (2, .ref q2), (1, .ref q1), (0, .ref b)] [.int (xs 2), .int (xs 1), .ref q1] (mp_w0 E q1 q2 bb mm vs ln wd) 84 11441
  refine mp_callV hF (As := [.int (xs 1), .int (xs 2)]) (rest := []) (wr := [(q2, .inr (10, [.int 0, .ref (mm 1), .ref (mm 2), .ref (mm 3), .ref (mm 4), .ref (mm 5), .int 0, .int 0, .int 0, .int 0, .int 0, .long 0, .int 0, .int 0, .int 0, .int (-1), .ref (mm 6), .ref (mm 7), .ref (mm 8), .ref (mm 9), .ref (mm 10), .ref (mm 11), .ref (mm 12), .ref (mm 13), .int 0, .ref (mm 14), .ref (mm 15), .ref (mm 16), .ref (mm 17), .int 0, .int 0, .int 0, .ref (mm 18), .ref (mm 19), .int 0, .int 0, .ref (mm 20), .ref (mm 21), .ref (mm 22), .int 0, .int 0, .int 0, .int 0, .ref (mm 23), .ref (mm 24), .ref (mm 25), .int 0])), ((mm 7), .inl (E.2.2 0, 25, .inl (fun _ => 0)))]) (aX9_halvings_55 E q1 (bb 16) (bb 17) (bb 1) (bb 36) (bb 37) (bb 40) (bb 46) (bb 49) (bb 52) (bb 54) (bb 30) (bb 31) (bb 32) (bb 33) (bb 34) (bb 35) (bb 18) (bb 19) (bb 20) (bb 21) (bb 22) (bb 23) (bb 24) (bb 25) (bb 26) (bb 27) (bb 28) (bb 29) (xs 1) (xs 2)) mp_lkL_49 0 rfl [0, 16, 17] [58, 65] rfl rfl rfl rfl rfl ⟨(Nat.le_of_ble_eq_true rfl), (Nat.le_of_ble_eq_true rfl), (Nat.le_of_ble_eq_true rfl), (Nat.le_of_ble_eq_true rfl)⟩ (Nat.le_of_ble_eq_true rfl) (by decide +kernel) (fun v5 w6 h7 => ?_)
  obtain ⟨rfl, rfl⟩ := h7
  show mp_W E X 4 556 [(3, .int 0), (2, .ref q2), (1, .ref q1), (0, .ref b)] [.int (-2)] [(q2, .inr (10, [.int 0, .ref (mm 1), .ref (mm 2), .ref (mm 3), .ref (mm 4), .ref (mm 5), .int 0, .int 0, .int 0, .int 0, .int 0, .long 0, .int 0, .int 0, .int 0, .int (-1), .ref (mm 6), .ref (mm 7), .ref (mm 8), .ref (mm 9), .ref (mm 10), .ref (mm 11), .ref (mm 12), .ref (mm 13), .int 0, .ref (mm 14), .ref (mm 15), .ref (mm 16), .ref (mm 17), .int 0, .int 0, .int 0, .ref (mm 18), .ref (mm 19), .int 0, .int 0, .ref (mm 20), .ref (mm 21), .ref (mm 22), .int 0, .int 0, .int 0, .int 0, .ref (mm 23), .ref (mm 24), .ref (mm 25), .int 0])), ((mm 7), .inl (E.2.2 0, 25, .inl (fun _ => 0)))] 84 11441
  refine mp_run hF mp_tabL_ok [mp_i (.aload_n 2), mp_i (.aload_n 0), mp_i (.iload_n 3), mp_c (.iconst 1) 1, mp_i .iadd] (by decide +kernel) ?_
  intro z8 h9
  obtain rfl : z8 = 1 := h9.trans (by decide)
  show mp_W E X 4 561 [(3, .int 0), (2, .ref q2), (1, .ref q1), (0, .ref b)] [.int 1, .ref b, .ref q2, .int (-2)] [(q2, .inr (10, [.int 0, .ref (mm 1), .ref (mm 2), .ref (mm 3), .ref (mm 4), .ref (mm 5), .int 0, .int 0, .int 0, .int 0, .int 0, .long 0, .int 0, .int 0, .int 0, .int (-1), .ref (mm 6), .ref (mm 7), .ref (mm 8), .ref (mm 9), .ref (mm 10), .ref (mm 11), .ref (mm 12), .ref (mm 13), .int 0, .ref (mm 14), .ref (mm 15), .ref (mm 16), .ref (mm 17), .int 0, .int 0, .int 0, .ref (mm 18), .ref (mm 19), .int 0, .int 0, .ref (mm 20), .ref (mm 21), .ref (mm 22), .int 0, .int 0, .int 0, .int 0, .ref (mm 23), .ref (mm 24), .ref (mm 25), .int 0])), ((mm 7), .inl (E.2.2 0, 25, .inl (fun _ => 0)))] 84 11441
  refine mp_lsld hL 1 (by decide) (by decide) (by decide) (by decide +kernel) ?_
  show mp_W E X 4 562 [(3, .int 0), (2, .ref q2), (1, .ref q1), (0, .ref b)] [.int (xs 1), .ref q2, .int (-2)] [(q2, .inr (10, [.int 0, .ref (mm 1), .ref (mm 2), .ref (mm 3), .ref (mm 4), .ref (mm 5), .int 0, .int 0, .int 0, .int 0, .int 0, .long 0, .int 0, .int 0, .int 0, .int (-1), .ref (mm 6), .ref (mm 7), .ref (mm 8), .ref (mm 9), .ref (mm 10), .ref (mm 11), .ref (mm 12), .ref (mm 13), .int 0, .ref (mm 14), .ref (mm 15), .ref (mm 16), .ref (mm 17), .int 0, .int 0, .int 0, .ref (mm 18), .ref (mm 19), .int 0, .int 0, .ref (mm 20), .ref (mm 21), .ref (mm 22), .int 0, .int 0, .int 0, .int 0, .ref (mm 23), .ref (mm 24), .ref (mm 25), .int 0])), ((mm 7), .inl (E.2.2 0, 25, .inl (fun _ => 0)))] 84 11441
  refine mp_run hF mp_tabL_ok [mp_i (.aload_n 0), mp_i (.iload_n 3), mp_c (.iconst 2) 2, mp_i .iadd] (by decide +kernel) ?_
  intro z10 h11
  obtain rfl : z10 = 2 := h11.trans (by decide)
  show mp_W E X 4 566 [(3, .int 0), (2, .ref q2), (1, .ref q1), (0, .ref b)] [.int 2, .ref b, .int (xs 1), .ref q2, .int (-2)] [(q2, .inr (10, [.int 0, .ref (mm 1), .ref (mm 2), .ref (mm 3), .ref (mm 4), .ref (mm 5), .int 0, .int 0, .int 0, .int 0, .int 0, .long 0, .int 0, .int 0, .int 0, .int (-1), .ref (mm 6), .ref (mm 7), .ref (mm 8), .ref (mm 9), .ref (mm 10), .ref (mm 11), .ref (mm 12), .ref (mm 13), .int 0, .ref (mm 14), .ref (mm 15), .ref (mm 16), .ref (mm 17), .int 0, .int 0, .int 0, .ref (mm 18), .ref (mm 19), .int 0, .int 0, .ref (mm 20), .ref (mm 21), .ref (mm 22), .int 0, .int 0, .int 0, .int 0, .ref (mm 23), .ref (mm 24), .ref (mm 25), .int 0])), ((mm 7), .inl (E.2.2 0, 25, .inl (fun _ => 0)))] 84 11441
  refine mp_lsld hL 2 (by decide) (by decide) (by decide) (by decide +kernel) ?_
  show mp_W E X 4 567 [(3, .int 0), (2, .ref q2), (1, .ref q1), (0, .ref b)] [.int (xs 2), .int (xs 1), .ref q2, .int (-2)] [(q2, .inr (10, [.int 0, .ref (mm 1), .ref (mm 2), .ref (mm 3), .ref (mm 4), .ref (mm 5), .int 0, .int 0, .int 0, .int 0, .int 0, .long 0, .int 0, .int 0, .int 0, .int (-1), .ref (mm 6), .ref (mm 7), .ref (mm 8), .ref (mm 9), .ref (mm 10), .ref (mm 11), .ref (mm 12), .ref (mm 13), .int 0, .ref (mm 14), .ref (mm 15), .ref (mm 16), .ref (mm 17), .int 0, .int 0, .int 0, .ref (mm 18), .ref (mm 19), .int 0, .int 0, .ref (mm 20), .ref (mm 21), .ref (mm 22), .int 0, .int 0, .int 0, .int 0, .ref (mm 23), .ref (mm 24), .ref (mm 25), .int 0])), ((mm 7), .inl (E.2.2 0, 25, .inl (fun _ => 0)))] 84 11441
  refine mp_callV hF (As := [.int (xs 1), .int (xs 2)]) (rest := [.int (-2)]) (wr := []) (aX10_halvings_56 E q2 (mm 7) (mm 1) (mm 2) (mm 3) (mm 4) (mm 5) (mm 6) (mm 8) (mm 9) (mm 10) (mm 11) (mm 12) (mm 13) (mm 14) (mm 15) (mm 16) (mm 17) (mm 18) (mm 19) (mm 20) (mm 21) (mm 22) (mm 23) (mm 24) (mm 25) (xs 1) (xs 2)) mp_lkL_52 0 rfl [0, 1] [] rfl rfl rfl rfl rfl ⟨(Nat.le_of_ble_eq_true rfl), (Nat.le_of_ble_eq_true rfl), (Nat.le_of_ble_eq_true rfl), (Nat.le_of_ble_eq_true rfl)⟩ (Nat.le_of_ble_eq_true rfl) (by decide +kernel) (fun v12 w13 h14 => ?_)
  obtain ⟨rfl, rfl⟩ := h14
  show mp_W E X 4 570 [(3, .int 0), (2, .ref q2), (1, .ref q1), (0, .ref b)] [.int (-2), .int (-2)] [] 84 11441
  refine mp_run hF mp_tabL_ok [mp_h (.if_icmp .eq 1649) [2219]] (by decide +kernel) ?_
  refine And.intro (fun _ => ?_) (fun c15 => absurd c15 (by decide))
  show mp_W E X 4 2219 [(3, .int 0), (2, .ref q2), (1, .ref q1), (0, .ref b)] [] [] 84 11441
  exact mp_sub [3, 0] rfl [] rfl rfl (mp_lw_next hL (Nat.le_of_ble_eq_true rfl) (Nat.le_of_ble_eq_true rfl))

set_option maxHeartbeats 4000000 in
set_option maxRecDepth 100000 in
theorem mp_case_9 {E : mp_E} {X : mp_X} {b : Nat} {xs : Nat → Int32} (hL : mp_Lw E X b 6 xs) (q1 q2 : Nat) (bb mm : Nat → Nat) (vs ln wd : Nat → Int32) (hln : ∀ j, j < 4 → ln j = -1) (hwd : ∀ j, j < 4 → wd j = -1) : mp_W E X 4 575 [(3, .int 0), (2, .ref q2), (1, .ref q1), (0, .ref b)] [] (mp_w0 E q1 q2 bb mm vs ln wd) 84 11441 := by
  have hF : mp_F E X (RL, code, 4, (2048, 600000, 7302250, 84000), ret, false) := hL.1
  show mp_W E X 4 575 [(3, .int 0), (2, .ref q2), (1, .ref q1), (0, .ref b)] [] (mp_w0 E q1 q2 bb mm vs ln wd) 84 11441
  refine mp_run hF mp_tabL_ok [mp_i (.aload_n 1), mp_i (.aload_n 0), mp_i (.iload_n 3), mp_c (.iconst 1) 1, mp_i .iadd] (by decide +kernel) ?_
  intro z1 h2
  obtain rfl : z1 = 1 := h2.trans (by decide)
  show mp_W E X 4 580 [(3, .int 0), (2, .ref q2), (1, .ref q1), (0, .ref b)] [.int 1, .ref b, .ref q1] (mp_w0 E q1 q2 bb mm vs ln wd) 84 11441
  refine mp_lsld hL 1 (by decide) (by decide) (by decide) (by decide +kernel) ?_
  show mp_W E X 4 581 [(3, .int 0), (2, .ref q2), (1, .ref q1), (0, .ref b)] [.int (xs 1), .ref q1] (mp_w0 E q1 q2 bb mm vs ln wd) 84 11441
  refine mp_run hF mp_tabL_ok [mp_i (.aload_n 0), mp_i (.iload_n 3), mp_c (.iconst 2) 2, mp_i .iadd] (by decide +kernel) ?_
  intro z3 h4
  obtain rfl : z3 = 2 := h4.trans (by decide)
  show mp_W E X 4 585 [(3, .int 0), (2, .ref q2), (1, .ref q1), (0, .ref b)] [.int 2, .ref b, .int (xs 1), .ref q1] (mp_w0 E q1 q2 bb mm vs ln wd) 84 11441
  refine mp_lsld hL 2 (by decide) (by decide) (by decide) (by decide +kernel) ?_
  show mp_W E X 4 586 [(3, .int 0), (2, .ref q2), (1, .ref q1), (0, .ref b)] [.int (xs 2), .int (xs 1), .ref q1] (mp_w0 E q1 q2 bb mm vs ln wd) 84 11441
  refine mp_callV hF (As := [.int (xs 1), .int (xs 2)]) (rest := []) (wr := [(q2, .inr (10, [.int 0, .ref (mm 1), .ref (mm 2), .ref (mm 3), .ref (mm 4), .ref (mm 5), .int 0, .int 0, .int 0, .int 0, .int 0, .long 0, .int 0, .int 0, .int 0, .int (-1), .ref (mm 6), .ref (mm 7), .ref (mm 8), .ref (mm 9), .ref (mm 10), .ref (mm 11), .ref (mm 12), .ref (mm 13), .int 0, .ref (mm 14), .ref (mm 15), .ref (mm 16), .ref (mm 17), .int 0, .int 0, .int 0, .ref (mm 18), .ref (mm 19), .int 0, .int 0, .ref (mm 20), .ref (mm 21), .ref (mm 22), .int 0, .int 0, .int 0, .int 0, .ref (mm 23), .ref (mm 24), .ref (mm 25), .int 0])), ((mm 7), .inl (E.2.2 0, 25, .inl (fun _ => 0)))]) (aX9_worth_57 E q1 (bb 16) (bb 17) (bb 1) (bb 36) (bb 37) (bb 40) (bb 46) (bb 49) (bb 52) (bb 54) (bb 30) (bb 31) (bb 32) (bb 33) (bb 34) (bb 35) (bb 18) (bb 19) (bb 20) (bb 21) (bb 22) (bb 23) (bb 24) (bb 25) (bb 26) (bb 27) (bb 28) (bb 29) (xs 1) (xs 2)) mp_lkL_53 0 rfl [0, 16, 17] [58, 65] rfl rfl rfl rfl rfl ⟨(Nat.le_of_ble_eq_true rfl), (Nat.le_of_ble_eq_true rfl), (Nat.le_of_ble_eq_true rfl), (Nat.le_of_ble_eq_true rfl)⟩ (Nat.le_of_ble_eq_true rfl) (by decide +kernel) (fun v5 w6 h7 => ?_)
  obtain ⟨rfl, rfl⟩ := h7
  show mp_W E X 4 589 [(3, .int 0), (2, .ref q2), (1, .ref q1), (0, .ref b)] [.int (-2)] [(q2, .inr (10, [.int 0, .ref (mm 1), .ref (mm 2), .ref (mm 3), .ref (mm 4), .ref (mm 5), .int 0, .int 0, .int 0, .int 0, .int 0, .long 0, .int 0, .int 0, .int 0, .int (-1), .ref (mm 6), .ref (mm 7), .ref (mm 8), .ref (mm 9), .ref (mm 10), .ref (mm 11), .ref (mm 12), .ref (mm 13), .int 0, .ref (mm 14), .ref (mm 15), .ref (mm 16), .ref (mm 17), .int 0, .int 0, .int 0, .ref (mm 18), .ref (mm 19), .int 0, .int 0, .ref (mm 20), .ref (mm 21), .ref (mm 22), .int 0, .int 0, .int 0, .int 0, .ref (mm 23), .ref (mm 24), .ref (mm 25), .int 0])), ((mm 7), .inl (E.2.2 0, 25, .inl (fun _ => 0)))] 84 11441
  refine mp_run hF mp_tabL_ok [mp_i (.aload_n 2), mp_i (.aload_n 0), mp_i (.iload_n 3), mp_c (.iconst 1) 1, mp_i .iadd] (by decide +kernel) ?_
  intro z8 h9
  obtain rfl : z8 = 1 := h9.trans (by decide)
  show mp_W E X 4 594 [(3, .int 0), (2, .ref q2), (1, .ref q1), (0, .ref b)] [.int 1, .ref b, .ref q2, .int (-2)] [(q2, .inr (10, [.int 0, .ref (mm 1), .ref (mm 2), .ref (mm 3), .ref (mm 4), .ref (mm 5), .int 0, .int 0, .int 0, .int 0, .int 0, .long 0, .int 0, .int 0, .int 0, .int (-1), .ref (mm 6), .ref (mm 7), .ref (mm 8), .ref (mm 9), .ref (mm 10), .ref (mm 11), .ref (mm 12), .ref (mm 13), .int 0, .ref (mm 14), .ref (mm 15), .ref (mm 16), .ref (mm 17), .int 0, .int 0, .int 0, .ref (mm 18), .ref (mm 19), .int 0, .int 0, .ref (mm 20), .ref (mm 21), .ref (mm 22), .int 0, .int 0, .int 0, .int 0, .ref (mm 23), .ref (mm 24), .ref (mm 25), .int 0])), ((mm 7), .inl (E.2.2 0, 25, .inl (fun _ => 0)))] 84 11441
  refine mp_lsld hL 1 (by decide) (by decide) (by decide) (by decide +kernel) ?_
  show mp_W E X 4 595 [(3, .int 0), (2, .ref q2), (1, .ref q1), (0, .ref b)] [.int (xs 1), .ref q2, .int (-2)] [(q2, .inr (10, [.int 0, .ref (mm 1), .ref (mm 2), .ref (mm 3), .ref (mm 4), .ref (mm 5), .int 0, .int 0, .int 0, .int 0, .int 0, .long 0, .int 0, .int 0, .int 0, .int (-1), .ref (mm 6), .ref (mm 7), .ref (mm 8), .ref (mm 9), .ref (mm 10), .ref (mm 11), .ref (mm 12), .ref (mm 13), .int 0, .ref (mm 14), .ref (mm 15), .ref (mm 16), .ref (mm 17), .int 0, .int 0, .int 0, .ref (mm 18), .ref (mm 19), .int 0, .int 0, .ref (mm 20), .ref (mm 21), .ref (mm 22), .int 0, .int 0, .int 0, .int 0, .ref (mm 23), .ref (mm 24), .ref (mm 25), .int 0])), ((mm 7), .inl (E.2.2 0, 25, .inl (fun _ => 0)))] 84 11441
  refine mp_run hF mp_tabL_ok [mp_i (.aload_n 0), mp_i (.iload_n 3), mp_c (.iconst 2) 2, mp_i .iadd] (by decide +kernel) ?_
  intro z10 h11
  obtain rfl : z10 = 2 := h11.trans (by decide)
  show mp_W E X 4 599 [(3, .int 0), (2, .ref q2), (1, .ref q1), (0, .ref b)] [.int 2, .ref b, .int (xs 1), .ref q2, .int (-2)] [(q2, .inr (10, [.int 0, .ref (mm 1), .ref (mm 2), .ref (mm 3), .ref (mm 4), .ref (mm 5), .int 0, .int 0, .int 0, .int 0, .int 0, .long 0, .int 0, .int 0, .int 0, .int (-1), .ref (mm 6), .ref (mm 7), .ref (mm 8), .ref (mm 9), .ref (mm 10), .ref (mm 11), .ref (mm 12), .ref (mm 13), .int 0, .ref (mm 14), .ref (mm 15), .ref (mm 16), .ref (mm 17), .int 0, .int 0, .int 0, .ref (mm 18), .ref (mm 19), .int 0, .int 0, .ref (mm 20), .ref (mm 21), .ref (mm 22), .int 0, .int 0, .int 0, .int 0, .ref (mm 23), .ref (mm 24), .ref (mm 25), .int 0])), ((mm 7), .inl (E.2.2 0, 25, .inl (fun _ => 0)))] 84 11441
  refine mp_lsld hL 2 (by decide) (by decide) (by decide) (by decide +kernel) ?_
  show mp_W E X 4 600 [(3, .int 0), (2, .ref q2), (1, .ref q1), (0, .ref b)] [.int (xs 2), .int (xs 1), .ref q2, .int (-2)] [(q2, .inr (10, [.int 0, .ref (mm 1), .ref (mm 2), .ref (mm 3), .ref (mm 4), .ref (mm 5), .int 0, .int 0, .int 0, .int 0, .int 0, .long 0, .int 0, .int 0, .int 0, .int (-1), .ref (mm 6), .ref (mm 7), .ref (mm 8), .ref (mm 9), .ref (mm 10), .ref (mm 11), .ref (mm 12), .ref (mm 13), .int 0, .ref (mm 14), .ref (mm 15), .ref (mm 16), .ref (mm 17), .int 0, .int 0, .int 0, .ref (mm 18), .ref (mm 19), .int 0, .int 0, .ref (mm 20), .ref (mm 21), .ref (mm 22), .int 0, .int 0, .int 0, .int 0, .ref (mm 23), .ref (mm 24), .ref (mm 25), .int 0])), ((mm 7), .inl (E.2.2 0, 25, .inl (fun _ => 0)))] 84 11441
  refine mp_callV hF (As := [.int (xs 1), .int (xs 2)]) (rest := [.int (-2)]) (wr := []) (aX10_worth_58 E q2 (mm 7) (mm 1) (mm 2) (mm 3) (mm 4) (mm 5) (mm 6) (mm 8) (mm 9) (mm 10) (mm 11) (mm 12) (mm 13) (mm 14) (mm 15) (mm 16) (mm 17) (mm 18) (mm 19) (mm 20) (mm 21) (mm 22) (mm 23) (mm 24) (mm 25) (xs 1) (xs 2)) mp_lkL_56 0 rfl [0, 1] [] rfl rfl rfl rfl rfl ⟨(Nat.le_of_ble_eq_true rfl), (Nat.le_of_ble_eq_true rfl), (Nat.le_of_ble_eq_true rfl), (Nat.le_of_ble_eq_true rfl)⟩ (Nat.le_of_ble_eq_true rfl) (by decide +kernel) (fun v12 w13 h14 => ?_)
  obtain ⟨rfl, rfl⟩ := h14
  show mp_W E X 4 603 [(3, .int 0), (2, .ref q2), (1, .ref q1), (0, .ref b)] [.int (-2), .int (-2)] [] 84 11441
  refine mp_run hF mp_tabL_ok [mp_h (.if_icmp .eq 1616) [2219]] (by decide +kernel) ?_
  refine And.intro (fun _ => ?_) (fun c15 => absurd c15 (by decide))
  show mp_W E X 4 2219 [(3, .int 0), (2, .ref q2), (1, .ref q1), (0, .ref b)] [] [] 84 11441
  exact mp_sub [3, 0] rfl [] rfl rfl (mp_lw_next hL (Nat.le_of_ble_eq_true rfl) (Nat.le_of_ble_eq_true rfl))

set_option maxHeartbeats 4000000 in
set_option maxRecDepth 100000 in
theorem mp_case_10 {E : mp_E} {X : mp_X} {b : Nat} {xs : Nat → Int32} (hL : mp_Lw E X b 6 xs) (q1 q2 : Nat) (bb mm : Nat → Nat) (vs ln wd : Nat → Int32) (hln : ∀ j, j < 4 → ln j = -1) (hwd : ∀ j, j < 4 → wd j = -1) : mp_W E X 4 608 [(3, .int 0), (2, .ref q2), (1, .ref q1), (0, .ref b)] [] (mp_w0 E q1 q2 bb mm vs ln wd) 84 11441 := by
  have hF : mp_F E X (RL, code, 4, (2048, 600000, 7302250, 84000), ret, false) := hL.1
  show mp_W E X 4 608 [(3, .int 0), (2, .ref q2), (1, .ref q1), (0, .ref b)] [] (mp_w0 E q1 q2 bb mm vs ln wd) 84 11441
  refine mp_run hF mp_tabL_ok [mp_i (.aload_n 1), mp_i (.aload_n 0), mp_i (.iload_n 3), mp_c (.iconst 1) 1, mp_i .iadd] (by decide +kernel) ?_
  intro z1 h2
  obtain rfl : z1 = 1 := h2.trans (by decide)
  show mp_W E X 4 613 [(3, .int 0), (2, .ref q2), (1, .ref q1), (0, .ref b)] [.int 1, .ref b, .ref q1] (mp_w0 E q1 q2 bb mm vs ln wd) 84 11441
  refine mp_lsld hL 1 (by decide) (by decide) (by decide) (by decide +kernel) ?_
  show mp_W E X 4 614 [(3, .int 0), (2, .ref q2), (1, .ref q1), (0, .ref b)] [.int (xs 1), .ref q1] (mp_w0 E q1 q2 bb mm vs ln wd) 84 11441
  refine mp_run hF mp_tabL_ok [mp_i (.aload_n 0), mp_i (.iload_n 3), mp_c (.iconst 2) 2, mp_i .iadd] (by decide +kernel) ?_
  intro z3 h4
  obtain rfl : z3 = 2 := h4.trans (by decide)
  show mp_W E X 4 618 [(3, .int 0), (2, .ref q2), (1, .ref q1), (0, .ref b)] [.int 2, .ref b, .int (xs 1), .ref q1] (mp_w0 E q1 q2 bb mm vs ln wd) 84 11441
  refine mp_lsld hL 2 (by decide) (by decide) (by decide) (by decide +kernel) ?_
  show mp_W E X 4 619 [(3, .int 0), (2, .ref q2), (1, .ref q1), (0, .ref b)] [.int (xs 2), .int (xs 1), .ref q1] (mp_w0 E q1 q2 bb mm vs ln wd) 84 11441
  refine mp_callV hF (As := [.int (xs 1), .int (xs 2)]) (rest := []) (wr := [(q2, .inr (10, [.int 0, .ref (mm 1), .ref (mm 2), .ref (mm 3), .ref (mm 4), .ref (mm 5), .int 0, .int 0, .int 0, .int 0, .int 0, .long 0, .int 0, .int 0, .int 0, .int (-1), .ref (mm 6), .ref (mm 7), .ref (mm 8), .ref (mm 9), .ref (mm 10), .ref (mm 11), .ref (mm 12), .ref (mm 13), .int 0, .ref (mm 14), .ref (mm 15), .ref (mm 16), .ref (mm 17), .int 0, .int 0, .int 0, .ref (mm 18), .ref (mm 19), .int 0, .int 0, .ref (mm 20), .ref (mm 21), .ref (mm 22), .int 0, .int 0, .int 0, .int 0, .ref (mm 23), .ref (mm 24), .ref (mm 25), .int 0])), ((mm 7), .inl (E.2.2 0, 25, .inl (fun _ => 0)))]) (aX9_falls_59 E q1 (bb 16) (bb 17) (bb 1) (bb 36) (bb 37) (bb 40) (bb 46) (bb 49) (bb 52) (bb 54) (bb 30) (bb 31) (bb 32) (bb 33) (bb 34) (bb 35) (bb 18) (bb 19) (bb 20) (bb 21) (bb 22) (bb 23) (bb 24) (bb 25) (bb 26) (bb 27) (bb 28) (bb 29) (xs 1) (xs 2)) mp_lkL_57 0 rfl [0, 16, 17] [58, 65] rfl rfl rfl rfl rfl ⟨(Nat.le_of_ble_eq_true rfl), (Nat.le_of_ble_eq_true rfl), (Nat.le_of_ble_eq_true rfl), (Nat.le_of_ble_eq_true rfl)⟩ (Nat.le_of_ble_eq_true rfl) (by decide +kernel) (fun v5 w6 h7 => ?_)
  obtain ⟨rfl, rfl⟩ := h7
  show mp_W E X 4 622 [(3, .int 0), (2, .ref q2), (1, .ref q1), (0, .ref b)] [.int (-2)] [(q2, .inr (10, [.int 0, .ref (mm 1), .ref (mm 2), .ref (mm 3), .ref (mm 4), .ref (mm 5), .int 0, .int 0, .int 0, .int 0, .int 0, .long 0, .int 0, .int 0, .int 0, .int (-1), .ref (mm 6), .ref (mm 7), .ref (mm 8), .ref (mm 9), .ref (mm 10), .ref (mm 11), .ref (mm 12), .ref (mm 13), .int 0, .ref (mm 14), .ref (mm 15), .ref (mm 16), .ref (mm 17), .int 0, .int 0, .int 0, .ref (mm 18), .ref (mm 19), .int 0, .int 0, .ref (mm 20), .ref (mm 21), .ref (mm 22), .int 0, .int 0, .int 0, .int 0, .ref (mm 23), .ref (mm 24), .ref (mm 25), .int 0])), ((mm 7), .inl (E.2.2 0, 25, .inl (fun _ => 0)))] 84 11441
  refine mp_run hF mp_tabL_ok [mp_i (.aload_n 2), mp_i (.aload_n 0), mp_i (.iload_n 3), mp_c (.iconst 1) 1, mp_i .iadd] (by decide +kernel) ?_
  intro z8 h9
  obtain rfl : z8 = 1 := h9.trans (by decide)
  show mp_W E X 4 627 [(3, .int 0), (2, .ref q2), (1, .ref q1), (0, .ref b)] [.int 1, .ref b, .ref q2, .int (-2)] [(q2, .inr (10, [.int 0, .ref (mm 1), .ref (mm 2), .ref (mm 3), .ref (mm 4), .ref (mm 5), .int 0, .int 0, .int 0, .int 0, .int 0, .long 0, .int 0, .int 0, .int 0, .int (-1), .ref (mm 6), .ref (mm 7), .ref (mm 8), .ref (mm 9), .ref (mm 10), .ref (mm 11), .ref (mm 12), .ref (mm 13), .int 0, .ref (mm 14), .ref (mm 15), .ref (mm 16), .ref (mm 17), .int 0, .int 0, .int 0, .ref (mm 18), .ref (mm 19), .int 0, .int 0, .ref (mm 20), .ref (mm 21), .ref (mm 22), .int 0, .int 0, .int 0, .int 0, .ref (mm 23), .ref (mm 24), .ref (mm 25), .int 0])), ((mm 7), .inl (E.2.2 0, 25, .inl (fun _ => 0)))] 84 11441
  refine mp_lsld hL 1 (by decide) (by decide) (by decide) (by decide +kernel) ?_
  show mp_W E X 4 628 [(3, .int 0), (2, .ref q2), (1, .ref q1), (0, .ref b)] [.int (xs 1), .ref q2, .int (-2)] [(q2, .inr (10, [.int 0, .ref (mm 1), .ref (mm 2), .ref (mm 3), .ref (mm 4), .ref (mm 5), .int 0, .int 0, .int 0, .int 0, .int 0, .long 0, .int 0, .int 0, .int 0, .int (-1), .ref (mm 6), .ref (mm 7), .ref (mm 8), .ref (mm 9), .ref (mm 10), .ref (mm 11), .ref (mm 12), .ref (mm 13), .int 0, .ref (mm 14), .ref (mm 15), .ref (mm 16), .ref (mm 17), .int 0, .int 0, .int 0, .ref (mm 18), .ref (mm 19), .int 0, .int 0, .ref (mm 20), .ref (mm 21), .ref (mm 22), .int 0, .int 0, .int 0, .int 0, .ref (mm 23), .ref (mm 24), .ref (mm 25), .int 0])), ((mm 7), .inl (E.2.2 0, 25, .inl (fun _ => 0)))] 84 11441
  refine mp_run hF mp_tabL_ok [mp_i (.aload_n 0), mp_i (.iload_n 3), mp_c (.iconst 2) 2, mp_i .iadd] (by decide +kernel) ?_
  intro z10 h11
  obtain rfl : z10 = 2 := h11.trans (by decide)
  show mp_W E X 4 632 [(3, .int 0), (2, .ref q2), (1, .ref q1), (0, .ref b)] [.int 2, .ref b, .int (xs 1), .ref q2, .int (-2)] [(q2, .inr (10, [.int 0, .ref (mm 1), .ref (mm 2), .ref (mm 3), .ref (mm 4), .ref (mm 5), .int 0, .int 0, .int 0, .int 0, .int 0, .long 0, .int 0, .int 0, .int 0, .int (-1), .ref (mm 6), .ref (mm 7), .ref (mm 8), .ref (mm 9), .ref (mm 10), .ref (mm 11), .ref (mm 12), .ref (mm 13), .int 0, .ref (mm 14), .ref (mm 15), .ref (mm 16), .ref (mm 17), .int 0, .int 0, .int 0, .ref (mm 18), .ref (mm 19), .int 0, .int 0, .ref (mm 20), .ref (mm 21), .ref (mm 22), .int 0, .int 0, .int 0, .int 0, .ref (mm 23), .ref (mm 24), .ref (mm 25), .int 0])), ((mm 7), .inl (E.2.2 0, 25, .inl (fun _ => 0)))] 84 11441
  refine mp_lsld hL 2 (by decide) (by decide) (by decide) (by decide +kernel) ?_
  show mp_W E X 4 633 [(3, .int 0), (2, .ref q2), (1, .ref q1), (0, .ref b)] [.int (xs 2), .int (xs 1), .ref q2, .int (-2)] [(q2, .inr (10, [.int 0, .ref (mm 1), .ref (mm 2), .ref (mm 3), .ref (mm 4), .ref (mm 5), .int 0, .int 0, .int 0, .int 0, .int 0, .long 0, .int 0, .int 0, .int 0, .int (-1), .ref (mm 6), .ref (mm 7), .ref (mm 8), .ref (mm 9), .ref (mm 10), .ref (mm 11), .ref (mm 12), .ref (mm 13), .int 0, .ref (mm 14), .ref (mm 15), .ref (mm 16), .ref (mm 17), .int 0, .int 0, .int 0, .ref (mm 18), .ref (mm 19), .int 0, .int 0, .ref (mm 20), .ref (mm 21), .ref (mm 22), .int 0, .int 0, .int 0, .int 0, .ref (mm 23), .ref (mm 24), .ref (mm 25), .int 0])), ((mm 7), .inl (E.2.2 0, 25, .inl (fun _ => 0)))] 84 11441
  refine mp_callV hF (As := [.int (xs 1), .int (xs 2)]) (rest := [.int (-2)]) (wr := []) (aX10_falls_60 E q2 (mm 7) (mm 1) (mm 2) (mm 3) (mm 4) (mm 5) (mm 6) (mm 8) (mm 9) (mm 10) (mm 11) (mm 12) (mm 13) (mm 14) (mm 15) (mm 16) (mm 17) (mm 18) (mm 19) (mm 20) (mm 21) (mm 22) (mm 23) (mm 24) (mm 25) (xs 1) (xs 2)) mp_lkL_60 0 rfl [0, 1] [] rfl rfl rfl rfl rfl ⟨(Nat.le_of_ble_eq_true rfl), (Nat.le_of_ble_eq_true rfl), (Nat.le_of_ble_eq_true rfl), (Nat.le_of_ble_eq_true rfl)⟩ (Nat.le_of_ble_eq_true rfl) (by decide +kernel) (fun v12 w13 h14 => ?_)
  obtain ⟨rfl, rfl⟩ := h14
  show mp_W E X 4 636 [(3, .int 0), (2, .ref q2), (1, .ref q1), (0, .ref b)] [.int (-2), .int (-2)] [] 84 11441
  refine mp_run hF mp_tabL_ok [mp_h (.if_icmp .eq 1583) [2219]] (by decide +kernel) ?_
  refine And.intro (fun _ => ?_) (fun c15 => absurd c15 (by decide))
  show mp_W E X 4 2219 [(3, .int 0), (2, .ref q2), (1, .ref q1), (0, .ref b)] [] [] 84 11441
  exact mp_sub [3, 0] rfl [] rfl rfl (mp_lw_next hL (Nat.le_of_ble_eq_true rfl) (Nat.le_of_ble_eq_true rfl))

set_option maxHeartbeats 4000000 in
set_option maxRecDepth 100000 in
theorem mp_case_11 {E : mp_E} {X : mp_X} {b : Nat} {xs : Nat → Int32} (hL : mp_Lw E X b 6 xs) (q1 q2 : Nat) (bb mm : Nat → Nat) (vs ln wd : Nat → Int32) (hln : ∀ j, j < 4 → ln j = -1) (hwd : ∀ j, j < 4 → wd j = -1) : mp_W E X 4 641 [(3, .int 0), (2, .ref q2), (1, .ref q1), (0, .ref b)] [] (mp_w0 E q1 q2 bb mm vs ln wd) 84 11441 := by
  have hF : mp_F E X (RL, code, 4, (2048, 600000, 7302250, 84000), ret, false) := hL.1
  show mp_W E X 4 641 [(3, .int 0), (2, .ref q2), (1, .ref q1), (0, .ref b)] [] (mp_w0 E q1 q2 bb mm vs ln wd) 84 11441
  refine mp_run hF mp_tabL_ok [mp_i (.aload_n 1), mp_i (.aload_n 0), mp_i (.iload_n 3), mp_c (.iconst 1) 1, mp_i .iadd] (by decide +kernel) ?_
  intro z1 h2
  obtain rfl : z1 = 1 := h2.trans (by decide)
  show mp_W E X 4 646 [(3, .int 0), (2, .ref q2), (1, .ref q1), (0, .ref b)] [.int 1, .ref b, .ref q1] (mp_w0 E q1 q2 bb mm vs ln wd) 84 11441
  refine mp_lsld hL 1 (by decide) (by decide) (by decide) (by decide +kernel) ?_
  show mp_W E X 4 647 [(3, .int 0), (2, .ref q2), (1, .ref q1), (0, .ref b)] [.int (xs 1), .ref q1] (mp_w0 E q1 q2 bb mm vs ln wd) 84 11441
  refine mp_run hF mp_tabL_ok [mp_i (.aload_n 0), mp_i (.iload_n 3), mp_c (.iconst 2) 2, mp_i .iadd] (by decide +kernel) ?_
  intro z3 h4
  obtain rfl : z3 = 2 := h4.trans (by decide)
  show mp_W E X 4 651 [(3, .int 0), (2, .ref q2), (1, .ref q1), (0, .ref b)] [.int 2, .ref b, .int (xs 1), .ref q1] (mp_w0 E q1 q2 bb mm vs ln wd) 84 11441
  refine mp_lsld hL 2 (by decide) (by decide) (by decide) (by decide +kernel) ?_
  show mp_W E X 4 652 [(3, .int 0), (2, .ref q2), (1, .ref q1), (0, .ref b)] [.int (xs 2), .int (xs 1), .ref q1] (mp_w0 E q1 q2 bb mm vs ln wd) 84 11441
  refine mp_run hF mp_tabL_ok [mp_i (.aload_n 0), mp_i (.iload_n 3), mp_c (.iconst 3) 3, mp_i .iadd] (by decide +kernel) ?_
  intro z5 h6
  obtain rfl : z5 = 3 := h6.trans (by decide)
  show mp_W E X 4 656 [(3, .int 0), (2, .ref q2), (1, .ref q1), (0, .ref b)] [.int 3, .ref b, .int (xs 2), .int (xs 1), .ref q1] (mp_w0 E q1 q2 bb mm vs ln wd) 84 11441
  refine mp_lsld hL 3 (by decide) (by decide) (by decide) (by decide +kernel) ?_
  show mp_W E X 4 657 [(3, .int 0), (2, .ref q2), (1, .ref q1), (0, .ref b)] [.int (xs 3), .int (xs 2), .int (xs 1), .ref q1] (mp_w0 E q1 q2 bb mm vs ln wd) 84 11441
  refine mp_callV hF (As := [.int (xs 1), .int (xs 2), .int (xs 3)]) (rest := []) (wr := [(q2, .inr (10, [.int 0, .ref (mm 1), .ref (mm 2), .ref (mm 3), .ref (mm 4), .ref (mm 5), .int 0, .int 0, .int 0, .int 0, .int 0, .long 0, .int 0, .int 0, .int 0, .int (-1), .ref (mm 6), .ref (mm 7), .ref (mm 8), .ref (mm 9), .ref (mm 10), .ref (mm 11), .ref (mm 12), .ref (mm 13), .int 0, .ref (mm 14), .ref (mm 15), .ref (mm 16), .ref (mm 17), .int 0, .int 0, .int 0, .ref (mm 18), .ref (mm 19), .int 0, .int 0, .ref (mm 20), .ref (mm 21), .ref (mm 22), .int 0, .int 0, .int 0, .int 0, .ref (mm 23), .ref (mm 24), .ref (mm 25), .int 0])), ((mm 7), .inl (E.2.2 0, 25, .inl (fun _ => 0)))]) (aX9_owed_62 E q1 (bb 16) (bb 17) (bb 1) (bb 36) (bb 37) (bb 40) (bb 46) (bb 49) (bb 52) (bb 54) (bb 30) (bb 31) (bb 32) (bb 33) (bb 34) (bb 35) (bb 18) (bb 19) (bb 20) (bb 21) (bb 22) (bb 23) (bb 24) (bb 25) (bb 26) (bb 27) (bb 28) (bb 29) (xs 1) (xs 2) (xs 3)) mp_lkL_61 0 rfl [0, 16, 17] [58, 65] rfl rfl rfl rfl rfl ⟨(Nat.le_of_ble_eq_true rfl), (Nat.le_of_ble_eq_true rfl), (Nat.le_of_ble_eq_true rfl), (Nat.le_of_ble_eq_true rfl)⟩ (Nat.le_of_ble_eq_true rfl) (by decide +kernel) (fun v7 w8 h9 => ?_)
  obtain ⟨rfl, rfl⟩ := h9
  show mp_W E X 4 660 [(3, .int 0), (2, .ref q2), (1, .ref q1), (0, .ref b)] [.int (-2)] [(q2, .inr (10, [.int 0, .ref (mm 1), .ref (mm 2), .ref (mm 3), .ref (mm 4), .ref (mm 5), .int 0, .int 0, .int 0, .int 0, .int 0, .long 0, .int 0, .int 0, .int 0, .int (-1), .ref (mm 6), .ref (mm 7), .ref (mm 8), .ref (mm 9), .ref (mm 10), .ref (mm 11), .ref (mm 12), .ref (mm 13), .int 0, .ref (mm 14), .ref (mm 15), .ref (mm 16), .ref (mm 17), .int 0, .int 0, .int 0, .ref (mm 18), .ref (mm 19), .int 0, .int 0, .ref (mm 20), .ref (mm 21), .ref (mm 22), .int 0, .int 0, .int 0, .int 0, .ref (mm 23), .ref (mm 24), .ref (mm 25), .int 0])), ((mm 7), .inl (E.2.2 0, 25, .inl (fun _ => 0)))] 84 11441
  refine mp_run hF mp_tabL_ok [mp_i (.aload_n 2), mp_i (.aload_n 0), mp_i (.iload_n 3), mp_c (.iconst 1) 1, mp_i .iadd] (by decide +kernel) ?_
  intro z10 h11
  obtain rfl : z10 = 1 := h11.trans (by decide)
  show mp_W E X 4 665 [(3, .int 0), (2, .ref q2), (1, .ref q1), (0, .ref b)] [.int 1, .ref b, .ref q2, .int (-2)] [(q2, .inr (10, [.int 0, .ref (mm 1), .ref (mm 2), .ref (mm 3), .ref (mm 4), .ref (mm 5), .int 0, .int 0, .int 0, .int 0, .int 0, .long 0, .int 0, .int 0, .int 0, .int (-1), .ref (mm 6), .ref (mm 7), .ref (mm 8), .ref (mm 9), .ref (mm 10), .ref (mm 11), .ref (mm 12), .ref (mm 13), .int 0, .ref (mm 14), .ref (mm 15), .ref (mm 16), .ref (mm 17), .int 0, .int 0, .int 0, .ref (mm 18), .ref (mm 19), .int 0, .int 0, .ref (mm 20), .ref (mm 21), .ref (mm 22), .int 0, .int 0, .int 0, .int 0, .ref (mm 23), .ref (mm 24), .ref (mm 25), .int 0])), ((mm 7), .inl (E.2.2 0, 25, .inl (fun _ => 0)))] 84 11441
  refine mp_lsld hL 1 (by decide) (by decide) (by decide) (by decide +kernel) ?_
  show mp_W E X 4 666 [(3, .int 0), (2, .ref q2), (1, .ref q1), (0, .ref b)] [.int (xs 1), .ref q2, .int (-2)] [(q2, .inr (10, [.int 0, .ref (mm 1), .ref (mm 2), .ref (mm 3), .ref (mm 4), .ref (mm 5), .int 0, .int 0, .int 0, .int 0, .int 0, .long 0, .int 0, .int 0, .int 0, .int (-1), .ref (mm 6), .ref (mm 7), .ref (mm 8), .ref (mm 9), .ref (mm 10), .ref (mm 11), .ref (mm 12), .ref (mm 13), .int 0, .ref (mm 14), .ref (mm 15), .ref (mm 16), .ref (mm 17), .int 0, .int 0, .int 0, .ref (mm 18), .ref (mm 19), .int 0, .int 0, .ref (mm 20), .ref (mm 21), .ref (mm 22), .int 0, .int 0, .int 0, .int 0, .ref (mm 23), .ref (mm 24), .ref (mm 25), .int 0])), ((mm 7), .inl (E.2.2 0, 25, .inl (fun _ => 0)))] 84 11441
  refine mp_run hF mp_tabL_ok [mp_i (.aload_n 0), mp_i (.iload_n 3), mp_c (.iconst 2) 2, mp_i .iadd] (by decide +kernel) ?_
  intro z12 h13
  obtain rfl : z12 = 2 := h13.trans (by decide)
  show mp_W E X 4 670 [(3, .int 0), (2, .ref q2), (1, .ref q1), (0, .ref b)] [.int 2, .ref b, .int (xs 1), .ref q2, .int (-2)] [(q2, .inr (10, [.int 0, .ref (mm 1), .ref (mm 2), .ref (mm 3), .ref (mm 4), .ref (mm 5), .int 0, .int 0, .int 0, .int 0, .int 0, .long 0, .int 0, .int 0, .int 0, .int (-1), .ref (mm 6), .ref (mm 7), .ref (mm 8), .ref (mm 9), .ref (mm 10), .ref (mm 11), .ref (mm 12), .ref (mm 13), .int 0, .ref (mm 14), .ref (mm 15), .ref (mm 16), .ref (mm 17), .int 0, .int 0, .int 0, .ref (mm 18), .ref (mm 19), .int 0, .int 0, .ref (mm 20), .ref (mm 21), .ref (mm 22), .int 0, .int 0, .int 0, .int 0, .ref (mm 23), .ref (mm 24), .ref (mm 25), .int 0])), ((mm 7), .inl (E.2.2 0, 25, .inl (fun _ => 0)))] 84 11441
  refine mp_lsld hL 2 (by decide) (by decide) (by decide) (by decide +kernel) ?_
  show mp_W E X 4 671 [(3, .int 0), (2, .ref q2), (1, .ref q1), (0, .ref b)] [.int (xs 2), .int (xs 1), .ref q2, .int (-2)] [(q2, .inr (10, [.int 0, .ref (mm 1), .ref (mm 2), .ref (mm 3), .ref (mm 4), .ref (mm 5), .int 0, .int 0, .int 0, .int 0, .int 0, .long 0, .int 0, .int 0, .int 0, .int (-1), .ref (mm 6), .ref (mm 7), .ref (mm 8), .ref (mm 9), .ref (mm 10), .ref (mm 11), .ref (mm 12), .ref (mm 13), .int 0, .ref (mm 14), .ref (mm 15), .ref (mm 16), .ref (mm 17), .int 0, .int 0, .int 0, .ref (mm 18), .ref (mm 19), .int 0, .int 0, .ref (mm 20), .ref (mm 21), .ref (mm 22), .int 0, .int 0, .int 0, .int 0, .ref (mm 23), .ref (mm 24), .ref (mm 25), .int 0])), ((mm 7), .inl (E.2.2 0, 25, .inl (fun _ => 0)))] 84 11441
  refine mp_run hF mp_tabL_ok [mp_i (.aload_n 0), mp_i (.iload_n 3), mp_c (.iconst 3) 3, mp_i .iadd] (by decide +kernel) ?_
  intro z14 h15
  obtain rfl : z14 = 3 := h15.trans (by decide)
  show mp_W E X 4 675 [(3, .int 0), (2, .ref q2), (1, .ref q1), (0, .ref b)] [.int 3, .ref b, .int (xs 2), .int (xs 1), .ref q2, .int (-2)] [(q2, .inr (10, [.int 0, .ref (mm 1), .ref (mm 2), .ref (mm 3), .ref (mm 4), .ref (mm 5), .int 0, .int 0, .int 0, .int 0, .int 0, .long 0, .int 0, .int 0, .int 0, .int (-1), .ref (mm 6), .ref (mm 7), .ref (mm 8), .ref (mm 9), .ref (mm 10), .ref (mm 11), .ref (mm 12), .ref (mm 13), .int 0, .ref (mm 14), .ref (mm 15), .ref (mm 16), .ref (mm 17), .int 0, .int 0, .int 0, .ref (mm 18), .ref (mm 19), .int 0, .int 0, .ref (mm 20), .ref (mm 21), .ref (mm 22), .int 0, .int 0, .int 0, .int 0, .ref (mm 23), .ref (mm 24), .ref (mm 25), .int 0])), ((mm 7), .inl (E.2.2 0, 25, .inl (fun _ => 0)))] 84 11441
  refine mp_lsld hL 3 (by decide) (by decide) (by decide) (by decide +kernel) ?_
  show mp_W E X 4 676 [(3, .int 0), (2, .ref q2), (1, .ref q1), (0, .ref b)] [.int (xs 3), .int (xs 2), .int (xs 1), .ref q2, .int (-2)] [(q2, .inr (10, [.int 0, .ref (mm 1), .ref (mm 2), .ref (mm 3), .ref (mm 4), .ref (mm 5), .int 0, .int 0, .int 0, .int 0, .int 0, .long 0, .int 0, .int 0, .int 0, .int (-1), .ref (mm 6), .ref (mm 7), .ref (mm 8), .ref (mm 9), .ref (mm 10), .ref (mm 11), .ref (mm 12), .ref (mm 13), .int 0, .ref (mm 14), .ref (mm 15), .ref (mm 16), .ref (mm 17), .int 0, .int 0, .int 0, .ref (mm 18), .ref (mm 19), .int 0, .int 0, .ref (mm 20), .ref (mm 21), .ref (mm 22), .int 0, .int 0, .int 0, .int 0, .ref (mm 23), .ref (mm 24), .ref (mm 25), .int 0])), ((mm 7), .inl (E.2.2 0, 25, .inl (fun _ => 0)))] 84 11441
  refine mp_callV hF (As := [.int (xs 1), .int (xs 2), .int (xs 3)]) (rest := [.int (-2)]) (wr := []) (aX10_owed_64 E q2 (mm 7) (mm 1) (mm 2) (mm 3) (mm 4) (mm 5) (mm 6) (mm 8) (mm 9) (mm 10) (mm 11) (mm 12) (mm 13) (mm 14) (mm 15) (mm 16) (mm 17) (mm 18) (mm 19) (mm 20) (mm 21) (mm 22) (mm 23) (mm 24) (mm 25) (xs 1) (xs 2) (xs 3)) mp_lkL_65 0 rfl [0, 1] [] rfl rfl rfl rfl rfl ⟨(Nat.le_of_ble_eq_true rfl), (Nat.le_of_ble_eq_true rfl), (Nat.le_of_ble_eq_true rfl), (Nat.le_of_ble_eq_true rfl)⟩ (Nat.le_of_ble_eq_true rfl) (by decide +kernel) (fun v16 w17 h18 => ?_)
  obtain ⟨rfl, rfl⟩ := h18
  show mp_W E X 4 679 [(3, .int 0), (2, .ref q2), (1, .ref q1), (0, .ref b)] [.int (-2), .int (-2)] [] 84 11441
  refine mp_run hF mp_tabL_ok [mp_h (.if_icmp .eq 1540) [2219]] (by decide +kernel) ?_
  refine And.intro (fun _ => ?_) (fun c19 => absurd c19 (by decide))
  show mp_W E X 4 2219 [(3, .int 0), (2, .ref q2), (1, .ref q1), (0, .ref b)] [] [] 84 11441
  exact mp_sub [3, 0] rfl [] rfl rfl (mp_lw_next hL (Nat.le_of_ble_eq_true rfl) (Nat.le_of_ble_eq_true rfl))

set_option maxHeartbeats 4000000 in
set_option maxRecDepth 100000 in
theorem mp_case_12 {E : mp_E} {X : mp_X} {b : Nat} {xs : Nat → Int32} (hL : mp_Lw E X b 6 xs) (q1 q2 : Nat) (bb mm : Nat → Nat) (vs ln wd : Nat → Int32) (hln : ∀ j, j < 4 → ln j = -1) (hwd : ∀ j, j < 4 → wd j = -1) : mp_W E X 4 684 [(3, .int 0), (2, .ref q2), (1, .ref q1), (0, .ref b)] [] (mp_w0 E q1 q2 bb mm vs ln wd) 84 11441 := by
  have hF : mp_F E X (RL, code, 4, (2048, 600000, 7302250, 84000), ret, false) := hL.1
  show mp_W E X 4 684 [(3, .int 0), (2, .ref q2), (1, .ref q1), (0, .ref b)] [] (mp_w0 E q1 q2 bb mm vs ln wd) 84 11441
  refine mp_run hF mp_tabL_ok [mp_i (.aload_n 1), mp_i (.aload_n 0), mp_i (.iload_n 3), mp_c (.iconst 1) 1, mp_i .iadd] (by decide +kernel) ?_
  intro z1 h2
  obtain rfl : z1 = 1 := h2.trans (by decide)
  show mp_W E X 4 689 [(3, .int 0), (2, .ref q2), (1, .ref q1), (0, .ref b)] [.int 1, .ref b, .ref q1] (mp_w0 E q1 q2 bb mm vs ln wd) 84 11441
  refine mp_lsld hL 1 (by decide) (by decide) (by decide) (by decide +kernel) ?_
  show mp_W E X 4 690 [(3, .int 0), (2, .ref q2), (1, .ref q1), (0, .ref b)] [.int (xs 1), .ref q1] (mp_w0 E q1 q2 bb mm vs ln wd) 84 11441
  refine mp_run hF mp_tabL_ok [mp_i (.aload_n 0), mp_i (.iload_n 3), mp_c (.iconst 2) 2, mp_i .iadd] (by decide +kernel) ?_
  intro z3 h4
  obtain rfl : z3 = 2 := h4.trans (by decide)
  show mp_W E X 4 694 [(3, .int 0), (2, .ref q2), (1, .ref q1), (0, .ref b)] [.int 2, .ref b, .int (xs 1), .ref q1] (mp_w0 E q1 q2 bb mm vs ln wd) 84 11441
  refine mp_lsld hL 2 (by decide) (by decide) (by decide) (by decide +kernel) ?_
  show mp_W E X 4 695 [(3, .int 0), (2, .ref q2), (1, .ref q1), (0, .ref b)] [.int (xs 2), .int (xs 1), .ref q1] (mp_w0 E q1 q2 bb mm vs ln wd) 84 11441
  refine mp_run hF mp_tabL_ok [mp_i (.aload_n 0), mp_i (.iload_n 3), mp_c (.iconst 3) 3, mp_i .iadd] (by decide +kernel) ?_
  intro z5 h6
  obtain rfl : z5 = 3 := h6.trans (by decide)
  show mp_W E X 4 699 [(3, .int 0), (2, .ref q2), (1, .ref q1), (0, .ref b)] [.int 3, .ref b, .int (xs 2), .int (xs 1), .ref q1] (mp_w0 E q1 q2 bb mm vs ln wd) 84 11441
  refine mp_lsld hL 3 (by decide) (by decide) (by decide) (by decide +kernel) ?_
  show mp_W E X 4 700 [(3, .int 0), (2, .ref q2), (1, .ref q1), (0, .ref b)] [.int (xs 3), .int (xs 2), .int (xs 1), .ref q1] (mp_w0 E q1 q2 bb mm vs ln wd) 84 11441
  refine mp_callV hF (As := [.int (xs 1), .int (xs 2), .int (xs 3)]) (rest := []) (wr := [(q2, .inr (10, [.int 0, .ref (mm 1), .ref (mm 2), .ref (mm 3), .ref (mm 4), .ref (mm 5), .int 0, .int 0, .int 0, .int 0, .int 0, .long 0, .int 0, .int 0, .int 0, .int (-1), .ref (mm 6), .ref (mm 7), .ref (mm 8), .ref (mm 9), .ref (mm 10), .ref (mm 11), .ref (mm 12), .ref (mm 13), .int 0, .ref (mm 14), .ref (mm 15), .ref (mm 16), .ref (mm 17), .int 0, .int 0, .int 0, .ref (mm 18), .ref (mm 19), .int 0, .int 0, .ref (mm 20), .ref (mm 21), .ref (mm 22), .int 0, .int 0, .int 0, .int 0, .ref (mm 23), .ref (mm 24), .ref (mm 25), .int 0])), ((mm 7), .inl (E.2.2 0, 25, .inl (fun _ => 0)))]) (aX9_sum_65 E q1 (bb 16) (bb 17) (bb 1) (bb 36) (bb 37) (bb 40) (bb 46) (bb 49) (bb 52) (bb 54) (bb 30) (bb 31) (bb 32) (bb 33) (bb 34) (bb 35) (bb 18) (bb 19) (bb 20) (bb 21) (bb 22) (bb 23) (bb 24) (bb 25) (bb 26) (bb 27) (bb 28) (bb 29) (xs 1) (xs 2) (xs 3)) mp_lkL_66 0 rfl [0, 16, 17] [58, 65] rfl rfl rfl rfl rfl ⟨(Nat.le_of_ble_eq_true rfl), (Nat.le_of_ble_eq_true rfl), (Nat.le_of_ble_eq_true rfl), (Nat.le_of_ble_eq_true rfl)⟩ (Nat.le_of_ble_eq_true rfl) (by decide +kernel) (fun v7 w8 h9 => ?_)
  obtain ⟨rfl, rfl⟩ := h9
  show mp_W E X 4 703 [(3, .int 0), (2, .ref q2), (1, .ref q1), (0, .ref b)] [.int (-2000000000)] [(q2, .inr (10, [.int 0, .ref (mm 1), .ref (mm 2), .ref (mm 3), .ref (mm 4), .ref (mm 5), .int 0, .int 0, .int 0, .int 0, .int 0, .long 0, .int 0, .int 0, .int 0, .int (-1), .ref (mm 6), .ref (mm 7), .ref (mm 8), .ref (mm 9), .ref (mm 10), .ref (mm 11), .ref (mm 12), .ref (mm 13), .int 0, .ref (mm 14), .ref (mm 15), .ref (mm 16), .ref (mm 17), .int 0, .int 0, .int 0, .ref (mm 18), .ref (mm 19), .int 0, .int 0, .ref (mm 20), .ref (mm 21), .ref (mm 22), .int 0, .int 0, .int 0, .int 0, .ref (mm 23), .ref (mm 24), .ref (mm 25), .int 0])), ((mm 7), .inl (E.2.2 0, 25, .inl (fun _ => 0)))] 84 11441
  refine mp_run hF mp_tabL_ok [mp_i (.aload_n 2), mp_i (.aload_n 0), mp_i (.iload_n 3), mp_c (.iconst 1) 1, mp_i .iadd] (by decide +kernel) ?_
  intro z10 h11
  obtain rfl : z10 = 1 := h11.trans (by decide)
  show mp_W E X 4 708 [(3, .int 0), (2, .ref q2), (1, .ref q1), (0, .ref b)] [.int 1, .ref b, .ref q2, .int (-2000000000)] [(q2, .inr (10, [.int 0, .ref (mm 1), .ref (mm 2), .ref (mm 3), .ref (mm 4), .ref (mm 5), .int 0, .int 0, .int 0, .int 0, .int 0, .long 0, .int 0, .int 0, .int 0, .int (-1), .ref (mm 6), .ref (mm 7), .ref (mm 8), .ref (mm 9), .ref (mm 10), .ref (mm 11), .ref (mm 12), .ref (mm 13), .int 0, .ref (mm 14), .ref (mm 15), .ref (mm 16), .ref (mm 17), .int 0, .int 0, .int 0, .ref (mm 18), .ref (mm 19), .int 0, .int 0, .ref (mm 20), .ref (mm 21), .ref (mm 22), .int 0, .int 0, .int 0, .int 0, .ref (mm 23), .ref (mm 24), .ref (mm 25), .int 0])), ((mm 7), .inl (E.2.2 0, 25, .inl (fun _ => 0)))] 84 11441
  refine mp_lsld hL 1 (by decide) (by decide) (by decide) (by decide +kernel) ?_
  show mp_W E X 4 709 [(3, .int 0), (2, .ref q2), (1, .ref q1), (0, .ref b)] [.int (xs 1), .ref q2, .int (-2000000000)] [(q2, .inr (10, [.int 0, .ref (mm 1), .ref (mm 2), .ref (mm 3), .ref (mm 4), .ref (mm 5), .int 0, .int 0, .int 0, .int 0, .int 0, .long 0, .int 0, .int 0, .int 0, .int (-1), .ref (mm 6), .ref (mm 7), .ref (mm 8), .ref (mm 9), .ref (mm 10), .ref (mm 11), .ref (mm 12), .ref (mm 13), .int 0, .ref (mm 14), .ref (mm 15), .ref (mm 16), .ref (mm 17), .int 0, .int 0, .int 0, .ref (mm 18), .ref (mm 19), .int 0, .int 0, .ref (mm 20), .ref (mm 21), .ref (mm 22), .int 0, .int 0, .int 0, .int 0, .ref (mm 23), .ref (mm 24), .ref (mm 25), .int 0])), ((mm 7), .inl (E.2.2 0, 25, .inl (fun _ => 0)))] 84 11441
  refine mp_run hF mp_tabL_ok [mp_i (.aload_n 0), mp_i (.iload_n 3), mp_c (.iconst 2) 2, mp_i .iadd] (by decide +kernel) ?_
  intro z12 h13
  obtain rfl : z12 = 2 := h13.trans (by decide)
  show mp_W E X 4 713 [(3, .int 0), (2, .ref q2), (1, .ref q1), (0, .ref b)] [.int 2, .ref b, .int (xs 1), .ref q2, .int (-2000000000)] [(q2, .inr (10, [.int 0, .ref (mm 1), .ref (mm 2), .ref (mm 3), .ref (mm 4), .ref (mm 5), .int 0, .int 0, .int 0, .int 0, .int 0, .long 0, .int 0, .int 0, .int 0, .int (-1), .ref (mm 6), .ref (mm 7), .ref (mm 8), .ref (mm 9), .ref (mm 10), .ref (mm 11), .ref (mm 12), .ref (mm 13), .int 0, .ref (mm 14), .ref (mm 15), .ref (mm 16), .ref (mm 17), .int 0, .int 0, .int 0, .ref (mm 18), .ref (mm 19), .int 0, .int 0, .ref (mm 20), .ref (mm 21), .ref (mm 22), .int 0, .int 0, .int 0, .int 0, .ref (mm 23), .ref (mm 24), .ref (mm 25), .int 0])), ((mm 7), .inl (E.2.2 0, 25, .inl (fun _ => 0)))] 84 11441
  refine mp_lsld hL 2 (by decide) (by decide) (by decide) (by decide +kernel) ?_
  show mp_W E X 4 714 [(3, .int 0), (2, .ref q2), (1, .ref q1), (0, .ref b)] [.int (xs 2), .int (xs 1), .ref q2, .int (-2000000000)] [(q2, .inr (10, [.int 0, .ref (mm 1), .ref (mm 2), .ref (mm 3), .ref (mm 4), .ref (mm 5), .int 0, .int 0, .int 0, .int 0, .int 0, .long 0, .int 0, .int 0, .int 0, .int (-1), .ref (mm 6), .ref (mm 7), .ref (mm 8), .ref (mm 9), .ref (mm 10), .ref (mm 11), .ref (mm 12), .ref (mm 13), .int 0, .ref (mm 14), .ref (mm 15), .ref (mm 16), .ref (mm 17), .int 0, .int 0, .int 0, .ref (mm 18), .ref (mm 19), .int 0, .int 0, .ref (mm 20), .ref (mm 21), .ref (mm 22), .int 0, .int 0, .int 0, .int 0, .ref (mm 23), .ref (mm 24), .ref (mm 25), .int 0])), ((mm 7), .inl (E.2.2 0, 25, .inl (fun _ => 0)))] 84 11441
  refine mp_run hF mp_tabL_ok [mp_i (.aload_n 0), mp_i (.iload_n 3), mp_c (.iconst 3) 3, mp_i .iadd] (by decide +kernel) ?_
  intro z14 h15
  obtain rfl : z14 = 3 := h15.trans (by decide)
  show mp_W E X 4 718 [(3, .int 0), (2, .ref q2), (1, .ref q1), (0, .ref b)] [.int 3, .ref b, .int (xs 2), .int (xs 1), .ref q2, .int (-2000000000)] [(q2, .inr (10, [.int 0, .ref (mm 1), .ref (mm 2), .ref (mm 3), .ref (mm 4), .ref (mm 5), .int 0, .int 0, .int 0, .int 0, .int 0, .long 0, .int 0, .int 0, .int 0, .int (-1), .ref (mm 6), .ref (mm 7), .ref (mm 8), .ref (mm 9), .ref (mm 10), .ref (mm 11), .ref (mm 12), .ref (mm 13), .int 0, .ref (mm 14), .ref (mm 15), .ref (mm 16), .ref (mm 17), .int 0, .int 0, .int 0, .ref (mm 18), .ref (mm 19), .int 0, .int 0, .ref (mm 20), .ref (mm 21), .ref (mm 22), .int 0, .int 0, .int 0, .int 0, .ref (mm 23), .ref (mm 24), .ref (mm 25), .int 0])), ((mm 7), .inl (E.2.2 0, 25, .inl (fun _ => 0)))] 84 11441
  refine mp_lsld hL 3 (by decide) (by decide) (by decide) (by decide +kernel) ?_
  show mp_W E X 4 719 [(3, .int 0), (2, .ref q2), (1, .ref q1), (0, .ref b)] [.int (xs 3), .int (xs 2), .int (xs 1), .ref q2, .int (-2000000000)] [(q2, .inr (10, [.int 0, .ref (mm 1), .ref (mm 2), .ref (mm 3), .ref (mm 4), .ref (mm 5), .int 0, .int 0, .int 0, .int 0, .int 0, .long 0, .int 0, .int 0, .int 0, .int (-1), .ref (mm 6), .ref (mm 7), .ref (mm 8), .ref (mm 9), .ref (mm 10), .ref (mm 11), .ref (mm 12), .ref (mm 13), .int 0, .ref (mm 14), .ref (mm 15), .ref (mm 16), .ref (mm 17), .int 0, .int 0, .int 0, .ref (mm 18), .ref (mm 19), .int 0, .int 0, .ref (mm 20), .ref (mm 21), .ref (mm 22), .int 0, .int 0, .int 0, .int 0, .ref (mm 23), .ref (mm 24), .ref (mm 25), .int 0])), ((mm 7), .inl (E.2.2 0, 25, .inl (fun _ => 0)))] 84 11441
  refine mp_callV hF (As := [.int (xs 1), .int (xs 2), .int (xs 3)]) (rest := [.int (-2000000000)]) (wr := []) (aX10_sum_66 E q2 (mm 7) (mm 1) (mm 2) (mm 3) (mm 4) (mm 5) (mm 6) (mm 8) (mm 9) (mm 10) (mm 11) (mm 12) (mm 13) (mm 14) (mm 15) (mm 16) (mm 17) (mm 18) (mm 19) (mm 20) (mm 21) (mm 22) (mm 23) (mm 24) (mm 25) (xs 1) (xs 2) (xs 3)) mp_lkL_69 0 rfl [0, 1] [] rfl rfl rfl rfl rfl ⟨(Nat.le_of_ble_eq_true rfl), (Nat.le_of_ble_eq_true rfl), (Nat.le_of_ble_eq_true rfl), (Nat.le_of_ble_eq_true rfl)⟩ (Nat.le_of_ble_eq_true rfl) (by decide +kernel) (fun v16 w17 h18 => ?_)
  obtain ⟨rfl, rfl⟩ := h18
  show mp_W E X 4 722 [(3, .int 0), (2, .ref q2), (1, .ref q1), (0, .ref b)] [.int (-2000000000), .int (-2000000000)] [] 84 11441
  refine mp_run hF mp_tabL_ok [mp_h (.if_icmp .eq 1497) [2219]] (by decide +kernel) ?_
  refine And.intro (fun _ => ?_) (fun c19 => absurd c19 (by decide))
  show mp_W E X 4 2219 [(3, .int 0), (2, .ref q2), (1, .ref q1), (0, .ref b)] [] [] 84 11441
  exact mp_sub [3, 0] rfl [] rfl rfl (mp_lw_next hL (Nat.le_of_ble_eq_true rfl) (Nat.le_of_ble_eq_true rfl))

set_option maxHeartbeats 4000000 in
set_option maxRecDepth 100000 in
theorem mp_case_13 {E : mp_E} {X : mp_X} {b : Nat} {xs : Nat → Int32} (hL : mp_Lw E X b 6 xs) (q1 q2 : Nat) (bb mm : Nat → Nat) (vs ln wd : Nat → Int32) (hln : ∀ j, j < 4 → ln j = -1) (hwd : ∀ j, j < 4 → wd j = -1) : mp_W E X 4 727 [(3, .int 0), (2, .ref q2), (1, .ref q1), (0, .ref b)] [] (mp_w0 E q1 q2 bb mm vs ln wd) 84 11441 := by
  have hF : mp_F E X (RL, code, 4, (2048, 600000, 7302250, 84000), ret, false) := hL.1
  show mp_W E X 4 727 [(3, .int 0), (2, .ref q2), (1, .ref q1), (0, .ref b)] [] (mp_w0 E q1 q2 bb mm vs ln wd) 84 11441
  refine mp_run hF mp_tabL_ok [mp_i (.aload_n 1), mp_i (.aload_n 0), mp_i (.iload_n 3), mp_c (.iconst 1) 1, mp_i .iadd] (by decide +kernel) ?_
  intro z1 h2
  obtain rfl : z1 = 1 := h2.trans (by decide)
  show mp_W E X 4 732 [(3, .int 0), (2, .ref q2), (1, .ref q1), (0, .ref b)] [.int 1, .ref b, .ref q1] (mp_w0 E q1 q2 bb mm vs ln wd) 84 11441
  refine mp_lsld hL 1 (by decide) (by decide) (by decide) (by decide +kernel) ?_
  show mp_W E X 4 733 [(3, .int 0), (2, .ref q2), (1, .ref q1), (0, .ref b)] [.int (xs 1), .ref q1] (mp_w0 E q1 q2 bb mm vs ln wd) 84 11441
  refine mp_callV hF (As := [.int (xs 1)]) (rest := []) (wr := [(q2, .inr (10, [.int 0, .ref (mm 1), .ref (mm 2), .ref (mm 3), .ref (mm 4), .ref (mm 5), .int 0, .int 0, .int 0, .int 0, .int 0, .long 0, .int 0, .int 0, .int 0, .int (-1), .ref (mm 6), .ref (mm 7), .ref (mm 8), .ref (mm 9), .ref (mm 10), .ref (mm 11), .ref (mm 12), .ref (mm 13), .int 0, .ref (mm 14), .ref (mm 15), .ref (mm 16), .ref (mm 17), .int 0, .int 0, .int 0, .ref (mm 18), .ref (mm 19), .int 0, .int 0, .ref (mm 20), .ref (mm 21), .ref (mm 22), .int 0, .int 0, .int 0, .int 0, .ref (mm 23), .ref (mm 24), .ref (mm 25), .int 0])), ((mm 6), .inl (E.2.2 0, 5, .inl (fun _ => 0)))]) (aX9_richest_68 E q1 (bb 16) (bb 17) (bb 1) (bb 36) (bb 37) (bb 40) (bb 46) (bb 49) (bb 52) (bb 54) (bb 30) (bb 31) (bb 32) (bb 33) (bb 34) (bb 35) (bb 18) (bb 19) (bb 20) (bb 21) (bb 22) (bb 23) (bb 24) (bb 25) (bb 26) (bb 27) (bb 28) (bb 29) (xs 1)) mp_lkL_70 0 rfl [0, 16, 17] [58, 64] rfl rfl rfl rfl rfl ⟨(Nat.le_of_ble_eq_true rfl), (Nat.le_of_ble_eq_true rfl), (Nat.le_of_ble_eq_true rfl), (Nat.le_of_ble_eq_true rfl)⟩ (Nat.le_of_ble_eq_true rfl) (by decide +kernel) (fun v3 w4 h5 => ?_)
  obtain ⟨rfl, rfl⟩ := h5
  show mp_W E X 4 736 [(3, .int 0), (2, .ref q2), (1, .ref q1), (0, .ref b)] [.int (-2)] [(q2, .inr (10, [.int 0, .ref (mm 1), .ref (mm 2), .ref (mm 3), .ref (mm 4), .ref (mm 5), .int 0, .int 0, .int 0, .int 0, .int 0, .long 0, .int 0, .int 0, .int 0, .int (-1), .ref (mm 6), .ref (mm 7), .ref (mm 8), .ref (mm 9), .ref (mm 10), .ref (mm 11), .ref (mm 12), .ref (mm 13), .int 0, .ref (mm 14), .ref (mm 15), .ref (mm 16), .ref (mm 17), .int 0, .int 0, .int 0, .ref (mm 18), .ref (mm 19), .int 0, .int 0, .ref (mm 20), .ref (mm 21), .ref (mm 22), .int 0, .int 0, .int 0, .int 0, .ref (mm 23), .ref (mm 24), .ref (mm 25), .int 0])), ((mm 6), .inl (E.2.2 0, 5, .inl (fun _ => 0)))] 84 11441
  refine mp_run hF mp_tabL_ok [mp_i (.aload_n 2), mp_i (.aload_n 0), mp_i (.iload_n 3), mp_c (.iconst 1) 1, mp_i .iadd] (by decide +kernel) ?_
  intro z6 h7
  obtain rfl : z6 = 1 := h7.trans (by decide)
  show mp_W E X 4 741 [(3, .int 0), (2, .ref q2), (1, .ref q1), (0, .ref b)] [.int 1, .ref b, .ref q2, .int (-2)] [(q2, .inr (10, [.int 0, .ref (mm 1), .ref (mm 2), .ref (mm 3), .ref (mm 4), .ref (mm 5), .int 0, .int 0, .int 0, .int 0, .int 0, .long 0, .int 0, .int 0, .int 0, .int (-1), .ref (mm 6), .ref (mm 7), .ref (mm 8), .ref (mm 9), .ref (mm 10), .ref (mm 11), .ref (mm 12), .ref (mm 13), .int 0, .ref (mm 14), .ref (mm 15), .ref (mm 16), .ref (mm 17), .int 0, .int 0, .int 0, .ref (mm 18), .ref (mm 19), .int 0, .int 0, .ref (mm 20), .ref (mm 21), .ref (mm 22), .int 0, .int 0, .int 0, .int 0, .ref (mm 23), .ref (mm 24), .ref (mm 25), .int 0])), ((mm 6), .inl (E.2.2 0, 5, .inl (fun _ => 0)))] 84 11441
  refine mp_lsld hL 1 (by decide) (by decide) (by decide) (by decide +kernel) ?_
  show mp_W E X 4 742 [(3, .int 0), (2, .ref q2), (1, .ref q1), (0, .ref b)] [.int (xs 1), .ref q2, .int (-2)] [(q2, .inr (10, [.int 0, .ref (mm 1), .ref (mm 2), .ref (mm 3), .ref (mm 4), .ref (mm 5), .int 0, .int 0, .int 0, .int 0, .int 0, .long 0, .int 0, .int 0, .int 0, .int (-1), .ref (mm 6), .ref (mm 7), .ref (mm 8), .ref (mm 9), .ref (mm 10), .ref (mm 11), .ref (mm 12), .ref (mm 13), .int 0, .ref (mm 14), .ref (mm 15), .ref (mm 16), .ref (mm 17), .int 0, .int 0, .int 0, .ref (mm 18), .ref (mm 19), .int 0, .int 0, .ref (mm 20), .ref (mm 21), .ref (mm 22), .int 0, .int 0, .int 0, .int 0, .ref (mm 23), .ref (mm 24), .ref (mm 25), .int 0])), ((mm 6), .inl (E.2.2 0, 5, .inl (fun _ => 0)))] 84 11441
  refine mp_callV hF (As := [.int (xs 1)]) (rest := [.int (-2)]) (wr := []) (aX10_richest_70 E q2 (mm 6) (mm 1) (mm 2) (mm 3) (mm 4) (mm 5) (mm 7) (mm 8) (mm 9) (mm 10) (mm 11) (mm 12) (mm 13) (mm 14) (mm 15) (mm 16) (mm 17) (mm 18) (mm 19) (mm 20) (mm 21) (mm 22) (mm 23) (mm 24) (mm 25) (xs 1)) mp_lkL_73 0 rfl [0, 1] [] rfl rfl rfl rfl rfl ⟨(Nat.le_of_ble_eq_true rfl), (Nat.le_of_ble_eq_true rfl), (Nat.le_of_ble_eq_true rfl), (Nat.le_of_ble_eq_true rfl)⟩ (Nat.le_of_ble_eq_true rfl) (by decide +kernel) (fun v8 w9 h10 => ?_)
  obtain ⟨rfl, rfl⟩ := h10
  show mp_W E X 4 745 [(3, .int 0), (2, .ref q2), (1, .ref q1), (0, .ref b)] [.int (-2), .int (-2)] [] 84 11441
  refine mp_run hF mp_tabL_ok [mp_h (.if_icmp .eq 1474) [2219]] (by decide +kernel) ?_
  refine And.intro (fun _ => ?_) (fun c11 => absurd c11 (by decide))
  show mp_W E X 4 2219 [(3, .int 0), (2, .ref q2), (1, .ref q1), (0, .ref b)] [] [] 84 11441
  exact mp_sub [3, 0] rfl [] rfl rfl (mp_lw_next hL (Nat.le_of_ble_eq_true rfl) (Nat.le_of_ble_eq_true rfl))

set_option maxHeartbeats 4000000 in
set_option maxRecDepth 100000 in
theorem mp_case_14 {E : mp_E} {X : mp_X} {b : Nat} {xs : Nat → Int32} (hL : mp_Lw E X b 6 xs) (q1 q2 : Nat) (bb mm : Nat → Nat) (vs ln wd : Nat → Int32) (hln : ∀ j, j < 4 → ln j = -1) (hwd : ∀ j, j < 4 → wd j = -1) : mp_W E X 4 750 [(3, .int 0), (2, .ref q2), (1, .ref q1), (0, .ref b)] [] (mp_w0 E q1 q2 bb mm vs ln wd) 84 11441 := by
  have hF : mp_F E X (RL, code, 4, (2048, 600000, 7302250, 84000), ret, false) := hL.1
  show mp_W E X 4 750 [(3, .int 0), (2, .ref q2), (1, .ref q1), (0, .ref b)] [] (mp_w0 E q1 q2 bb mm vs ln wd) 84 11441
  refine mp_run hF mp_tabL_ok [mp_i (.aload_n 1), mp_i (.aload_n 0), mp_i (.iload_n 3), mp_c (.iconst 1) 1, mp_i .iadd] (by decide +kernel) ?_
  intro z1 h2
  obtain rfl : z1 = 1 := h2.trans (by decide)
  show mp_W E X 4 755 [(3, .int 0), (2, .ref q2), (1, .ref q1), (0, .ref b)] [.int 1, .ref b, .ref q1] (mp_w0 E q1 q2 bb mm vs ln wd) 84 11441
  refine mp_lsld hL 1 (by decide) (by decide) (by decide) (by decide +kernel) ?_
  show mp_W E X 4 756 [(3, .int 0), (2, .ref q2), (1, .ref q1), (0, .ref b)] [.int (xs 1), .ref q1] (mp_w0 E q1 q2 bb mm vs ln wd) 84 11441
  refine mp_callV hF (As := [.int (xs 1)]) (rest := []) (wr := [(q2, .inr (10, [.int 0, .ref (mm 1), .ref (mm 2), .ref (mm 3), .ref (mm 4), .ref (mm 5), .int 0, .int 0, .int 0, .int 0, .int 0, .long 0, .int 0, .int 0, .int 0, .int (-1), .ref (mm 6), .ref (mm 7), .ref (mm 8), .ref (mm 9), .ref (mm 10), .ref (mm 11), .ref (mm 12), .ref (mm 13), .int 0, .ref (mm 14), .ref (mm 15), .ref (mm 16), .ref (mm 17), .int 0, .int 0, .int 0, .ref (mm 18), .ref (mm 19), .int 0, .int 0, .ref (mm 20), .ref (mm 21), .ref (mm 22), .int 0, .int 0, .int 0, .int 0, .ref (mm 23), .ref (mm 24), .ref (mm 25), .int 0])), ((mm 6), .inl (E.2.2 0, 5, .inl (fun _ => 0)))]) (aX9_greatest_71 E q1 (bb 16) (bb 17) (bb 1) (bb 36) (bb 37) (bb 40) (bb 46) (bb 49) (bb 52) (bb 54) (bb 30) (bb 31) (bb 32) (bb 33) (bb 34) (bb 35) (bb 18) (bb 19) (bb 20) (bb 21) (bb 22) (bb 23) (bb 24) (bb 25) (bb 26) (bb 27) (bb 28) (bb 29) (xs 1)) mp_lkL_74 0 rfl [0, 16, 17] [58, 64] rfl rfl rfl rfl rfl ⟨(Nat.le_of_ble_eq_true rfl), (Nat.le_of_ble_eq_true rfl), (Nat.le_of_ble_eq_true rfl), (Nat.le_of_ble_eq_true rfl)⟩ (Nat.le_of_ble_eq_true rfl) (by decide +kernel) (fun v3 w4 h5 => ?_)
  obtain ⟨rfl, rfl⟩ := h5
  show mp_W E X 4 759 [(3, .int 0), (2, .ref q2), (1, .ref q1), (0, .ref b)] [.int (-2)] [(q2, .inr (10, [.int 0, .ref (mm 1), .ref (mm 2), .ref (mm 3), .ref (mm 4), .ref (mm 5), .int 0, .int 0, .int 0, .int 0, .int 0, .long 0, .int 0, .int 0, .int 0, .int (-1), .ref (mm 6), .ref (mm 7), .ref (mm 8), .ref (mm 9), .ref (mm 10), .ref (mm 11), .ref (mm 12), .ref (mm 13), .int 0, .ref (mm 14), .ref (mm 15), .ref (mm 16), .ref (mm 17), .int 0, .int 0, .int 0, .ref (mm 18), .ref (mm 19), .int 0, .int 0, .ref (mm 20), .ref (mm 21), .ref (mm 22), .int 0, .int 0, .int 0, .int 0, .ref (mm 23), .ref (mm 24), .ref (mm 25), .int 0])), ((mm 6), .inl (E.2.2 0, 5, .inl (fun _ => 0)))] 84 11441
  refine mp_run hF mp_tabL_ok [mp_i (.aload_n 2), mp_i (.aload_n 0), mp_i (.iload_n 3), mp_c (.iconst 1) 1, mp_i .iadd] (by decide +kernel) ?_
  intro z6 h7
  obtain rfl : z6 = 1 := h7.trans (by decide)
  show mp_W E X 4 764 [(3, .int 0), (2, .ref q2), (1, .ref q1), (0, .ref b)] [.int 1, .ref b, .ref q2, .int (-2)] [(q2, .inr (10, [.int 0, .ref (mm 1), .ref (mm 2), .ref (mm 3), .ref (mm 4), .ref (mm 5), .int 0, .int 0, .int 0, .int 0, .int 0, .long 0, .int 0, .int 0, .int 0, .int (-1), .ref (mm 6), .ref (mm 7), .ref (mm 8), .ref (mm 9), .ref (mm 10), .ref (mm 11), .ref (mm 12), .ref (mm 13), .int 0, .ref (mm 14), .ref (mm 15), .ref (mm 16), .ref (mm 17), .int 0, .int 0, .int 0, .ref (mm 18), .ref (mm 19), .int 0, .int 0, .ref (mm 20), .ref (mm 21), .ref (mm 22), .int 0, .int 0, .int 0, .int 0, .ref (mm 23), .ref (mm 24), .ref (mm 25), .int 0])), ((mm 6), .inl (E.2.2 0, 5, .inl (fun _ => 0)))] 84 11441
  refine mp_lsld hL 1 (by decide) (by decide) (by decide) (by decide +kernel) ?_
  show mp_W E X 4 765 [(3, .int 0), (2, .ref q2), (1, .ref q1), (0, .ref b)] [.int (xs 1), .ref q2, .int (-2)] [(q2, .inr (10, [.int 0, .ref (mm 1), .ref (mm 2), .ref (mm 3), .ref (mm 4), .ref (mm 5), .int 0, .int 0, .int 0, .int 0, .int 0, .long 0, .int 0, .int 0, .int 0, .int (-1), .ref (mm 6), .ref (mm 7), .ref (mm 8), .ref (mm 9), .ref (mm 10), .ref (mm 11), .ref (mm 12), .ref (mm 13), .int 0, .ref (mm 14), .ref (mm 15), .ref (mm 16), .ref (mm 17), .int 0, .int 0, .int 0, .ref (mm 18), .ref (mm 19), .int 0, .int 0, .ref (mm 20), .ref (mm 21), .ref (mm 22), .int 0, .int 0, .int 0, .int 0, .ref (mm 23), .ref (mm 24), .ref (mm 25), .int 0])), ((mm 6), .inl (E.2.2 0, 5, .inl (fun _ => 0)))] 84 11441
  refine mp_callV hF (As := [.int (xs 1)]) (rest := [.int (-2)]) (wr := []) (aX10_greatest_72 E q2 (mm 6) (mm 1) (mm 2) (mm 3) (mm 4) (mm 5) (mm 7) (mm 8) (mm 9) (mm 10) (mm 11) (mm 12) (mm 13) (mm 14) (mm 15) (mm 16) (mm 17) (mm 18) (mm 19) (mm 20) (mm 21) (mm 22) (mm 23) (mm 24) (mm 25) (xs 1)) mp_lkL_77 0 rfl [0, 1] [] rfl rfl rfl rfl rfl ⟨(Nat.le_of_ble_eq_true rfl), (Nat.le_of_ble_eq_true rfl), (Nat.le_of_ble_eq_true rfl), (Nat.le_of_ble_eq_true rfl)⟩ (Nat.le_of_ble_eq_true rfl) (by decide +kernel) (fun v8 w9 h10 => ?_)
  obtain ⟨rfl, rfl⟩ := h10
  show mp_W E X 4 768 [(3, .int 0), (2, .ref q2), (1, .ref q1), (0, .ref b)] [.int (-2), .int (-2)] [] 84 11441
  refine mp_run hF mp_tabL_ok [mp_h (.if_icmp .eq 1451) [2219]] (by decide +kernel) ?_
  refine And.intro (fun _ => ?_) (fun c11 => absurd c11 (by decide))
  show mp_W E X 4 2219 [(3, .int 0), (2, .ref q2), (1, .ref q1), (0, .ref b)] [] [] 84 11441
  exact mp_sub [3, 0] rfl [] rfl rfl (mp_lw_next hL (Nat.le_of_ble_eq_true rfl) (Nat.le_of_ble_eq_true rfl))

set_option maxHeartbeats 4000000 in
set_option maxRecDepth 100000 in
theorem mp_case_15 {E : mp_E} {X : mp_X} {b : Nat} {xs : Nat → Int32} (hL : mp_Lw E X b 6 xs) (q1 q2 : Nat) (bb mm : Nat → Nat) (vs ln wd : Nat → Int32) (hln : ∀ j, j < 4 → ln j = -1) (hwd : ∀ j, j < 4 → wd j = -1) : mp_W E X 4 773 [(3, .int 0), (2, .ref q2), (1, .ref q1), (0, .ref b)] [] (mp_w0 E q1 q2 bb mm vs ln wd) 84 11441 := by
  have hF : mp_F E X (RL, code, 4, (2048, 600000, 7302250, 84000), ret, false) := hL.1
  show mp_W E X 4 773 [(3, .int 0), (2, .ref q2), (1, .ref q1), (0, .ref b)] [] (mp_w0 E q1 q2 bb mm vs ln wd) 84 11441
  refine mp_run hF mp_tabL_ok [mp_i (.aload_n 1), mp_i (.aload_n 0), mp_i (.iload_n 3), mp_c (.iconst 1) 1, mp_i .iadd] (by decide +kernel) ?_
  intro z1 h2
  obtain rfl : z1 = 1 := h2.trans (by decide)
  show mp_W E X 4 778 [(3, .int 0), (2, .ref q2), (1, .ref q1), (0, .ref b)] [.int 1, .ref b, .ref q1] (mp_w0 E q1 q2 bb mm vs ln wd) 84 11441
  refine mp_lsld hL 1 (by decide) (by decide) (by decide) (by decide +kernel) ?_
  show mp_W E X 4 779 [(3, .int 0), (2, .ref q2), (1, .ref q1), (0, .ref b)] [.int (xs 1), .ref q1] (mp_w0 E q1 q2 bb mm vs ln wd) 84 11441
  refine mp_callV hF (As := [.int (xs 1)]) (rest := []) (wr := [(q2, .inr (10, [.int 0, .ref (mm 1), .ref (mm 2), .ref (mm 3), .ref (mm 4), .ref (mm 5), .int 0, .int 0, .int 0, .int 0, .int 0, .long 0, .int 0, .int 0, .int 0, .int (-1), .ref (mm 6), .ref (mm 7), .ref (mm 8), .ref (mm 9), .ref (mm 10), .ref (mm 11), .ref (mm 12), .ref (mm 13), .int 0, .ref (mm 14), .ref (mm 15), .ref (mm 16), .ref (mm 17), .int 0, .int 0, .int 0, .ref (mm 18), .ref (mm 19), .int 0, .int 0, .ref (mm 20), .ref (mm 21), .ref (mm 22), .int 0, .int 0, .int 0, .int 0, .ref (mm 23), .ref (mm 24), .ref (mm 25), .int 0])), ((mm 7), .inl (E.2.2 0, 25, .inl (fun _ => 0)))]) (aX9_root_73 E q1 (bb 16) (bb 17) (bb 1) (bb 36) (bb 37) (bb 40) (bb 46) (bb 49) (bb 52) (bb 54) (bb 30) (bb 31) (bb 32) (bb 33) (bb 34) (bb 35) (bb 18) (bb 19) (bb 20) (bb 21) (bb 22) (bb 23) (bb 24) (bb 25) (bb 26) (bb 27) (bb 28) (bb 29) (xs 1)) mp_lkL_78 0 rfl [0, 16, 17] [58, 65] rfl rfl rfl rfl rfl ⟨(Nat.le_of_ble_eq_true rfl), (Nat.le_of_ble_eq_true rfl), (Nat.le_of_ble_eq_true rfl), (Nat.le_of_ble_eq_true rfl)⟩ (Nat.le_of_ble_eq_true rfl) (by decide +kernel) (fun v3 w4 h5 => ?_)
  obtain ⟨rfl, rfl⟩ := h5
  show mp_W E X 4 782 [(3, .int 0), (2, .ref q2), (1, .ref q1), (0, .ref b)] [.int (-2)] [(q2, .inr (10, [.int 0, .ref (mm 1), .ref (mm 2), .ref (mm 3), .ref (mm 4), .ref (mm 5), .int 0, .int 0, .int 0, .int 0, .int 0, .long 0, .int 0, .int 0, .int 0, .int (-1), .ref (mm 6), .ref (mm 7), .ref (mm 8), .ref (mm 9), .ref (mm 10), .ref (mm 11), .ref (mm 12), .ref (mm 13), .int 0, .ref (mm 14), .ref (mm 15), .ref (mm 16), .ref (mm 17), .int 0, .int 0, .int 0, .ref (mm 18), .ref (mm 19), .int 0, .int 0, .ref (mm 20), .ref (mm 21), .ref (mm 22), .int 0, .int 0, .int 0, .int 0, .ref (mm 23), .ref (mm 24), .ref (mm 25), .int 0])), ((mm 7), .inl (E.2.2 0, 25, .inl (fun _ => 0)))] 84 11441
  refine mp_run hF mp_tabL_ok [mp_i (.aload_n 2), mp_i (.aload_n 0), mp_i (.iload_n 3), mp_c (.iconst 1) 1, mp_i .iadd] (by decide +kernel) ?_
  intro z6 h7
  obtain rfl : z6 = 1 := h7.trans (by decide)
  show mp_W E X 4 787 [(3, .int 0), (2, .ref q2), (1, .ref q1), (0, .ref b)] [.int 1, .ref b, .ref q2, .int (-2)] [(q2, .inr (10, [.int 0, .ref (mm 1), .ref (mm 2), .ref (mm 3), .ref (mm 4), .ref (mm 5), .int 0, .int 0, .int 0, .int 0, .int 0, .long 0, .int 0, .int 0, .int 0, .int (-1), .ref (mm 6), .ref (mm 7), .ref (mm 8), .ref (mm 9), .ref (mm 10), .ref (mm 11), .ref (mm 12), .ref (mm 13), .int 0, .ref (mm 14), .ref (mm 15), .ref (mm 16), .ref (mm 17), .int 0, .int 0, .int 0, .ref (mm 18), .ref (mm 19), .int 0, .int 0, .ref (mm 20), .ref (mm 21), .ref (mm 22), .int 0, .int 0, .int 0, .int 0, .ref (mm 23), .ref (mm 24), .ref (mm 25), .int 0])), ((mm 7), .inl (E.2.2 0, 25, .inl (fun _ => 0)))] 84 11441
  refine mp_lsld hL 1 (by decide) (by decide) (by decide) (by decide +kernel) ?_
  show mp_W E X 4 788 [(3, .int 0), (2, .ref q2), (1, .ref q1), (0, .ref b)] [.int (xs 1), .ref q2, .int (-2)] [(q2, .inr (10, [.int 0, .ref (mm 1), .ref (mm 2), .ref (mm 3), .ref (mm 4), .ref (mm 5), .int 0, .int 0, .int 0, .int 0, .int 0, .long 0, .int 0, .int 0, .int 0, .int (-1), .ref (mm 6), .ref (mm 7), .ref (mm 8), .ref (mm 9), .ref (mm 10), .ref (mm 11), .ref (mm 12), .ref (mm 13), .int 0, .ref (mm 14), .ref (mm 15), .ref (mm 16), .ref (mm 17), .int 0, .int 0, .int 0, .ref (mm 18), .ref (mm 19), .int 0, .int 0, .ref (mm 20), .ref (mm 21), .ref (mm 22), .int 0, .int 0, .int 0, .int 0, .ref (mm 23), .ref (mm 24), .ref (mm 25), .int 0])), ((mm 7), .inl (E.2.2 0, 25, .inl (fun _ => 0)))] 84 11441
  refine mp_callV hF (As := [.int (xs 1)]) (rest := [.int (-2)]) (wr := []) (aX10_root_74 E q2 (mm 7) (mm 1) (mm 2) (mm 3) (mm 4) (mm 5) (mm 6) (mm 8) (mm 9) (mm 10) (mm 11) (mm 12) (mm 13) (mm 14) (mm 15) (mm 16) (mm 17) (mm 18) (mm 19) (mm 20) (mm 21) (mm 22) (mm 23) (mm 24) (mm 25) (xs 1)) mp_lkL_81 0 rfl [0, 1] [] rfl rfl rfl rfl rfl ⟨(Nat.le_of_ble_eq_true rfl), (Nat.le_of_ble_eq_true rfl), (Nat.le_of_ble_eq_true rfl), (Nat.le_of_ble_eq_true rfl)⟩ (Nat.le_of_ble_eq_true rfl) (by decide +kernel) (fun v8 w9 h10 => ?_)
  obtain ⟨rfl, rfl⟩ := h10
  show mp_W E X 4 791 [(3, .int 0), (2, .ref q2), (1, .ref q1), (0, .ref b)] [.int (-2), .int (-2)] [] 84 11441
  refine mp_run hF mp_tabL_ok [mp_h (.if_icmp .eq 1428) [2219]] (by decide +kernel) ?_
  refine And.intro (fun _ => ?_) (fun c11 => absurd c11 (by decide))
  show mp_W E X 4 2219 [(3, .int 0), (2, .ref q2), (1, .ref q1), (0, .ref b)] [] [] 84 11441
  exact mp_sub [3, 0] rfl [] rfl rfl (mp_lw_next hL (Nat.le_of_ble_eq_true rfl) (Nat.le_of_ble_eq_true rfl))

set_option maxHeartbeats 4000000 in
set_option maxRecDepth 100000 in
theorem mp_case_16 {E : mp_E} {X : mp_X} {b : Nat} {xs : Nat → Int32} (hL : mp_Lw E X b 6 xs) (q1 q2 : Nat) (bb mm : Nat → Nat) (vs ln wd : Nat → Int32) (hln : ∀ j, j < 4 → ln j = -1) (hwd : ∀ j, j < 4 → wd j = -1) : mp_W E X 4 796 [(3, .int 0), (2, .ref q2), (1, .ref q1), (0, .ref b)] [] (mp_w0 E q1 q2 bb mm vs ln wd) 84 11441 := by
  have hF : mp_F E X (RL, code, 4, (2048, 600000, 7302250, 84000), ret, false) := hL.1
  show mp_W E X 4 796 [(3, .int 0), (2, .ref q2), (1, .ref q1), (0, .ref b)] [] (mp_w0 E q1 q2 bb mm vs ln wd) 84 11441
  refine mp_run hF mp_tabL_ok [mp_i (.aload_n 1), mp_i (.aload_n 0), mp_i (.iload_n 3), mp_c (.iconst 1) 1, mp_i .iadd] (by decide +kernel) ?_
  intro z1 h2
  obtain rfl : z1 = 1 := h2.trans (by decide)
  show mp_W E X 4 801 [(3, .int 0), (2, .ref q2), (1, .ref q1), (0, .ref b)] [.int 1, .ref b, .ref q1] (mp_w0 E q1 q2 bb mm vs ln wd) 84 11441
  refine mp_lsld hL 1 (by decide) (by decide) (by decide) (by decide +kernel) ?_
  show mp_W E X 4 802 [(3, .int 0), (2, .ref q2), (1, .ref q1), (0, .ref b)] [.int (xs 1), .ref q1] (mp_w0 E q1 q2 bb mm vs ln wd) 84 11441
  refine mp_callV hF (As := [.int (xs 1)]) (rest := []) (wr := [(q2, .inr (10, [.int 0, .ref (mm 1), .ref (mm 2), .ref (mm 3), .ref (mm 4), .ref (mm 5), .int 0, .int 0, .int 0, .int 0, .int 0, .long 0, .int 0, .int 0, .int 0, .int (-1), .ref (mm 6), .ref (mm 7), .ref (mm 8), .ref (mm 9), .ref (mm 10), .ref (mm 11), .ref (mm 12), .ref (mm 13), .int 0, .ref (mm 14), .ref (mm 15), .ref (mm 16), .ref (mm 17), .int 0, .int 0, .int 0, .ref (mm 18), .ref (mm 19), .int 0, .int 0, .ref (mm 20), .ref (mm 21), .ref (mm 22), .int 0, .int 0, .int 0, .int 0, .ref (mm 23), .ref (mm 24), .ref (mm 25), .int 0])), ((mm 7), .inl (E.2.2 0, 25, .inl (fun _ => 0)))]) (aX9_upon_75 E q1 (bb 16) (bb 17) (bb 1) (bb 36) (bb 37) (bb 40) (bb 46) (bb 49) (bb 52) (bb 54) (bb 30) (bb 31) (bb 32) (bb 33) (bb 34) (bb 35) (bb 18) (bb 19) (bb 20) (bb 21) (bb 22) (bb 23) (bb 24) (bb 25) (bb 26) (bb 27) (bb 28) (bb 29) (xs 1)) mp_lkL_82 0 rfl [0, 16, 17] [58, 65] rfl rfl rfl rfl rfl ⟨(Nat.le_of_ble_eq_true rfl), (Nat.le_of_ble_eq_true rfl), (Nat.le_of_ble_eq_true rfl), (Nat.le_of_ble_eq_true rfl)⟩ (Nat.le_of_ble_eq_true rfl) (by decide +kernel) (fun v3 w4 h5 => ?_)
  obtain ⟨rfl, rfl⟩ := h5
  show mp_W E X 4 805 [(3, .int 0), (2, .ref q2), (1, .ref q1), (0, .ref b)] [.int (-2)] [(q2, .inr (10, [.int 0, .ref (mm 1), .ref (mm 2), .ref (mm 3), .ref (mm 4), .ref (mm 5), .int 0, .int 0, .int 0, .int 0, .int 0, .long 0, .int 0, .int 0, .int 0, .int (-1), .ref (mm 6), .ref (mm 7), .ref (mm 8), .ref (mm 9), .ref (mm 10), .ref (mm 11), .ref (mm 12), .ref (mm 13), .int 0, .ref (mm 14), .ref (mm 15), .ref (mm 16), .ref (mm 17), .int 0, .int 0, .int 0, .ref (mm 18), .ref (mm 19), .int 0, .int 0, .ref (mm 20), .ref (mm 21), .ref (mm 22), .int 0, .int 0, .int 0, .int 0, .ref (mm 23), .ref (mm 24), .ref (mm 25), .int 0])), ((mm 7), .inl (E.2.2 0, 25, .inl (fun _ => 0)))] 84 11441
  refine mp_run hF mp_tabL_ok [mp_i (.aload_n 2), mp_i (.aload_n 0), mp_i (.iload_n 3), mp_c (.iconst 1) 1, mp_i .iadd] (by decide +kernel) ?_
  intro z6 h7
  obtain rfl : z6 = 1 := h7.trans (by decide)
  show mp_W E X 4 810 [(3, .int 0), (2, .ref q2), (1, .ref q1), (0, .ref b)] [.int 1, .ref b, .ref q2, .int (-2)] [(q2, .inr (10, [.int 0, .ref (mm 1), .ref (mm 2), .ref (mm 3), .ref (mm 4), .ref (mm 5), .int 0, .int 0, .int 0, .int 0, .int 0, .long 0, .int 0, .int 0, .int 0, .int (-1), .ref (mm 6), .ref (mm 7), .ref (mm 8), .ref (mm 9), .ref (mm 10), .ref (mm 11), .ref (mm 12), .ref (mm 13), .int 0, .ref (mm 14), .ref (mm 15), .ref (mm 16), .ref (mm 17), .int 0, .int 0, .int 0, .ref (mm 18), .ref (mm 19), .int 0, .int 0, .ref (mm 20), .ref (mm 21), .ref (mm 22), .int 0, .int 0, .int 0, .int 0, .ref (mm 23), .ref (mm 24), .ref (mm 25), .int 0])), ((mm 7), .inl (E.2.2 0, 25, .inl (fun _ => 0)))] 84 11441
  refine mp_lsld hL 1 (by decide) (by decide) (by decide) (by decide +kernel) ?_
  show mp_W E X 4 811 [(3, .int 0), (2, .ref q2), (1, .ref q1), (0, .ref b)] [.int (xs 1), .ref q2, .int (-2)] [(q2, .inr (10, [.int 0, .ref (mm 1), .ref (mm 2), .ref (mm 3), .ref (mm 4), .ref (mm 5), .int 0, .int 0, .int 0, .int 0, .int 0, .long 0, .int 0, .int 0, .int 0, .int (-1), .ref (mm 6), .ref (mm 7), .ref (mm 8), .ref (mm 9), .ref (mm 10), .ref (mm 11), .ref (mm 12), .ref (mm 13), .int 0, .ref (mm 14), .ref (mm 15), .ref (mm 16), .ref (mm 17), .int 0, .int 0, .int 0, .ref (mm 18), .ref (mm 19), .int 0, .int 0, .ref (mm 20), .ref (mm 21), .ref (mm 22), .int 0, .int 0, .int 0, .int 0, .ref (mm 23), .ref (mm 24), .ref (mm 25), .int 0])), ((mm 7), .inl (E.2.2 0, 25, .inl (fun _ => 0)))] 84 11441
  refine mp_callV hF (As := [.int (xs 1)]) (rest := [.int (-2)]) (wr := []) (aX10_upon_76 E q2 (mm 7) (mm 1) (mm 2) (mm 3) (mm 4) (mm 5) (mm 6) (mm 8) (mm 9) (mm 10) (mm 11) (mm 12) (mm 13) (mm 14) (mm 15) (mm 16) (mm 17) (mm 18) (mm 19) (mm 20) (mm 21) (mm 22) (mm 23) (mm 24) (mm 25) (xs 1)) mp_lkL_85 0 rfl [0, 1] [] rfl rfl rfl rfl rfl ⟨(Nat.le_of_ble_eq_true rfl), (Nat.le_of_ble_eq_true rfl), (Nat.le_of_ble_eq_true rfl), (Nat.le_of_ble_eq_true rfl)⟩ (Nat.le_of_ble_eq_true rfl) (by decide +kernel) (fun v8 w9 h10 => ?_)
  obtain ⟨rfl, rfl⟩ := h10
  show mp_W E X 4 814 [(3, .int 0), (2, .ref q2), (1, .ref q1), (0, .ref b)] [.int (-2), .int (-2)] [] 84 11441
  refine mp_run hF mp_tabL_ok [mp_h (.if_icmp .eq 1405) [2219]] (by decide +kernel) ?_
  refine And.intro (fun _ => ?_) (fun c11 => absurd c11 (by decide))
  show mp_W E X 4 2219 [(3, .int 0), (2, .ref q2), (1, .ref q1), (0, .ref b)] [] [] 84 11441
  exact mp_sub [3, 0] rfl [] rfl rfl (mp_lw_next hL (Nat.le_of_ble_eq_true rfl) (Nat.le_of_ble_eq_true rfl))

set_option maxHeartbeats 4000000 in
set_option maxRecDepth 100000 in
theorem mp_case_17 {E : mp_E} {X : mp_X} {b : Nat} {xs : Nat → Int32} (hL : mp_Lw E X b 6 xs) (q1 q2 : Nat) (bb mm : Nat → Nat) (vs ln wd : Nat → Int32) (hln : ∀ j, j < 4 → ln j = -1) (hwd : ∀ j, j < 4 → wd j = -1) : mp_W E X 4 819 [(3, .int 0), (2, .ref q2), (1, .ref q1), (0, .ref b)] [] (mp_w0 E q1 q2 bb mm vs ln wd) 84 11441 := by
  have hF : mp_F E X (RL, code, 4, (2048, 600000, 7302250, 84000), ret, false) := hL.1
  show mp_W E X 4 819 [(3, .int 0), (2, .ref q2), (1, .ref q1), (0, .ref b)] [] (mp_w0 E q1 q2 bb mm vs ln wd) 84 11441
  refine mp_run hF mp_tabL_ok [mp_i (.aload_n 1)] (by decide +kernel) ?_
  show mp_W E X 4 820 [(3, .int 0), (2, .ref q2), (1, .ref q1), (0, .ref b)] [.ref q1] (mp_w0 E q1 q2 bb mm vs ln wd) 84 11441
  refine mp_callV hF (As := []) (rest := []) (wr := [(q2, .inr (10, [.int 0, .ref (mm 1), .ref (mm 2), .ref (mm 3), .ref (mm 4), .ref (mm 5), .int 0, .int 0, .int 0, .int 0, .int 0, .long 0, .int 0, .int 0, .int 0, .int (-1), .ref (mm 6), .ref (mm 7), .ref (mm 8), .ref (mm 9), .ref (mm 10), .ref (mm 11), .ref (mm 12), .ref (mm 13), .int 0, .ref (mm 14), .ref (mm 15), .ref (mm 16), .ref (mm 17), .int 0, .int 0, .int 0, .ref (mm 18), .ref (mm 19), .int 0, .int 0, .ref (mm 20), .ref (mm 21), .ref (mm 22), .int 0, .int 0, .int 0, .int 0, .ref (mm 23), .ref (mm 24), .ref (mm 25), .int 0])), ((mm 6), .inl (E.2.2 0, 5, .inl (fun _ => 0)))]) (aX9_now_77 E q1 (bb 16) (bb 17) (bb 1) (bb 36) (bb 37) (bb 40) (bb 46) (bb 49) (bb 52) (bb 54) (bb 30) (bb 31) (bb 32) (bb 33) (bb 34) (bb 35) (bb 18) (bb 19) (bb 20) (bb 21) (bb 22) (bb 23) (bb 24) (bb 25) (bb 26) (bb 27) (bb 28) (bb 29)) mp_lkL_86 0 rfl [0, 16, 17] [58, 64] rfl rfl rfl rfl rfl ⟨(Nat.le_of_ble_eq_true rfl), (Nat.le_of_ble_eq_true rfl), (Nat.le_of_ble_eq_true rfl), (Nat.le_of_ble_eq_true rfl)⟩ (Nat.le_of_ble_eq_true rfl) (by decide +kernel) (fun v1 w2 h3 => ?_)
  obtain ⟨rfl, rfl⟩ := h3
  show mp_W E X 4 823 [(3, .int 0), (2, .ref q2), (1, .ref q1), (0, .ref b)] [.int (-2)] [(q2, .inr (10, [.int 0, .ref (mm 1), .ref (mm 2), .ref (mm 3), .ref (mm 4), .ref (mm 5), .int 0, .int 0, .int 0, .int 0, .int 0, .long 0, .int 0, .int 0, .int 0, .int (-1), .ref (mm 6), .ref (mm 7), .ref (mm 8), .ref (mm 9), .ref (mm 10), .ref (mm 11), .ref (mm 12), .ref (mm 13), .int 0, .ref (mm 14), .ref (mm 15), .ref (mm 16), .ref (mm 17), .int 0, .int 0, .int 0, .ref (mm 18), .ref (mm 19), .int 0, .int 0, .ref (mm 20), .ref (mm 21), .ref (mm 22), .int 0, .int 0, .int 0, .int 0, .ref (mm 23), .ref (mm 24), .ref (mm 25), .int 0])), ((mm 6), .inl (E.2.2 0, 5, .inl (fun _ => 0)))] 84 11441
  refine mp_run hF mp_tabL_ok [mp_i (.aload_n 2)] (by decide +kernel) ?_
  show mp_W E X 4 824 [(3, .int 0), (2, .ref q2), (1, .ref q1), (0, .ref b)] [.ref q2, .int (-2)] [(q2, .inr (10, [.int 0, .ref (mm 1), .ref (mm 2), .ref (mm 3), .ref (mm 4), .ref (mm 5), .int 0, .int 0, .int 0, .int 0, .int 0, .long 0, .int 0, .int 0, .int 0, .int (-1), .ref (mm 6), .ref (mm 7), .ref (mm 8), .ref (mm 9), .ref (mm 10), .ref (mm 11), .ref (mm 12), .ref (mm 13), .int 0, .ref (mm 14), .ref (mm 15), .ref (mm 16), .ref (mm 17), .int 0, .int 0, .int 0, .ref (mm 18), .ref (mm 19), .int 0, .int 0, .ref (mm 20), .ref (mm 21), .ref (mm 22), .int 0, .int 0, .int 0, .int 0, .ref (mm 23), .ref (mm 24), .ref (mm 25), .int 0])), ((mm 6), .inl (E.2.2 0, 5, .inl (fun _ => 0)))] 84 11441
  refine mp_callV hF (As := []) (rest := [.int (-2)]) (wr := []) (aX10_now_78 E q2 (mm 6) (mm 1) (mm 2) (mm 3) (mm 4) (mm 5) (mm 7) (mm 8) (mm 9) (mm 10) (mm 11) (mm 12) (mm 13) (mm 14) (mm 15) (mm 16) (mm 17) (mm 18) (mm 19) (mm 20) (mm 21) (mm 22) (mm 23) (mm 24) (mm 25)) mp_lkL_89 0 rfl [0, 1] [] rfl rfl rfl rfl rfl ⟨(Nat.le_of_ble_eq_true rfl), (Nat.le_of_ble_eq_true rfl), (Nat.le_of_ble_eq_true rfl), (Nat.le_of_ble_eq_true rfl)⟩ (Nat.le_of_ble_eq_true rfl) (by decide +kernel) (fun v4 w5 h6 => ?_)
  obtain ⟨rfl, rfl⟩ := h6
  show mp_W E X 4 827 [(3, .int 0), (2, .ref q2), (1, .ref q1), (0, .ref b)] [.int (-2), .int (-2)] [] 84 11441
  refine mp_run hF mp_tabL_ok [mp_h (.if_icmp .eq 1392) [2219]] (by decide +kernel) ?_
  refine And.intro (fun _ => ?_) (fun c7 => absurd c7 (by decide))
  show mp_W E X 4 2219 [(3, .int 0), (2, .ref q2), (1, .ref q1), (0, .ref b)] [] [] 84 11441
  exact mp_sub [3, 0] rfl [] rfl rfl (mp_lw_next hL (Nat.le_of_ble_eq_true rfl) (Nat.le_of_ble_eq_true rfl))

set_option maxHeartbeats 4000000 in
set_option maxRecDepth 100000 in
theorem mp_case_18 {E : mp_E} {X : mp_X} {b : Nat} {xs : Nat → Int32} (hL : mp_Lw E X b 6 xs) (q1 q2 : Nat) (bb mm : Nat → Nat) (vs ln wd : Nat → Int32) (hln : ∀ j, j < 4 → ln j = -1) (hwd : ∀ j, j < 4 → wd j = -1) : mp_W E X 4 832 [(3, .int 0), (2, .ref q2), (1, .ref q1), (0, .ref b)] [] (mp_w0 E q1 q2 bb mm vs ln wd) 84 11441 := by
  have hF : mp_F E X (RL, code, 4, (2048, 600000, 7302250, 84000), ret, false) := hL.1
  show mp_W E X 4 832 [(3, .int 0), (2, .ref q2), (1, .ref q1), (0, .ref b)] [] (mp_w0 E q1 q2 bb mm vs ln wd) 84 11441
  refine mp_run hF mp_tabL_ok [mp_i (.aload_n 1), mp_i (.aload_n 0), mp_i (.iload_n 3), mp_c (.iconst 1) 1, mp_i .iadd] (by decide +kernel) ?_
  intro z1 h2
  obtain rfl : z1 = 1 := h2.trans (by decide)
  show mp_W E X 4 837 [(3, .int 0), (2, .ref q2), (1, .ref q1), (0, .ref b)] [.int 1, .ref b, .ref q1] (mp_w0 E q1 q2 bb mm vs ln wd) 84 11441
  refine mp_lsld hL 1 (by decide) (by decide) (by decide) (by decide +kernel) ?_
  show mp_W E X 4 838 [(3, .int 0), (2, .ref q2), (1, .ref q1), (0, .ref b)] [.int (xs 1), .ref q1] (mp_w0 E q1 q2 bb mm vs ln wd) 84 11441
  refine mp_callV hF (As := [.int (xs 1)]) (rest := []) (wr := [(q2, .inr (10, [.int 0, .ref (mm 1), .ref (mm 2), .ref (mm 3), .ref (mm 4), .ref (mm 5), .int 0, .int 0, .int 0, .int 0, .int 0, .long 0, .int 0, .int 0, .int 0, .int (-1), .ref (mm 6), .ref (mm 7), .ref (mm 8), .ref (mm 9), .ref (mm 10), .ref (mm 11), .ref (mm 12), .ref (mm 13), .int 0, .ref (mm 14), .ref (mm 15), .ref (mm 16), .ref (mm 17), .int 0, .int 0, .int 0, .ref (mm 18), .ref (mm 19), .int 0, .int 0, .ref (mm 20), .ref (mm 21), .ref (mm 22), .int 0, .int 0, .int 0, .int 0, .ref (mm 23), .ref (mm 24), .ref (mm 25), .int 0])), ((mm 7), .inl (E.2.2 0, 25, .inl (fun _ => 0)))]) (aX9_where_79 E q1 (bb 16) (bb 17) (bb 1) (bb 36) (bb 37) (bb 40) (bb 46) (bb 49) (bb 52) (bb 54) (bb 30) (bb 31) (bb 32) (bb 33) (bb 34) (bb 35) (bb 18) (bb 19) (bb 20) (bb 21) (bb 22) (bb 23) (bb 24) (bb 25) (bb 26) (bb 27) (bb 28) (bb 29) (xs 1)) mp_lkL_90 0 rfl [0, 16, 17] [58, 65] rfl rfl rfl rfl rfl ⟨(Nat.le_of_ble_eq_true rfl), (Nat.le_of_ble_eq_true rfl), (Nat.le_of_ble_eq_true rfl), (Nat.le_of_ble_eq_true rfl)⟩ (Nat.le_of_ble_eq_true rfl) (by decide +kernel) (fun v3 w4 h5 => ?_)
  obtain ⟨rfl, rfl⟩ := h5
  show mp_W E X 4 841 [(3, .int 0), (2, .ref q2), (1, .ref q1), (0, .ref b)] [.int (-2)] [(q2, .inr (10, [.int 0, .ref (mm 1), .ref (mm 2), .ref (mm 3), .ref (mm 4), .ref (mm 5), .int 0, .int 0, .int 0, .int 0, .int 0, .long 0, .int 0, .int 0, .int 0, .int (-1), .ref (mm 6), .ref (mm 7), .ref (mm 8), .ref (mm 9), .ref (mm 10), .ref (mm 11), .ref (mm 12), .ref (mm 13), .int 0, .ref (mm 14), .ref (mm 15), .ref (mm 16), .ref (mm 17), .int 0, .int 0, .int 0, .ref (mm 18), .ref (mm 19), .int 0, .int 0, .ref (mm 20), .ref (mm 21), .ref (mm 22), .int 0, .int 0, .int 0, .int 0, .ref (mm 23), .ref (mm 24), .ref (mm 25), .int 0])), ((mm 7), .inl (E.2.2 0, 25, .inl (fun _ => 0)))] 84 11441
  refine mp_run hF mp_tabL_ok [mp_i (.aload_n 2), mp_i (.aload_n 0), mp_i (.iload_n 3), mp_c (.iconst 1) 1, mp_i .iadd] (by decide +kernel) ?_
  intro z6 h7
  obtain rfl : z6 = 1 := h7.trans (by decide)
  show mp_W E X 4 846 [(3, .int 0), (2, .ref q2), (1, .ref q1), (0, .ref b)] [.int 1, .ref b, .ref q2, .int (-2)] [(q2, .inr (10, [.int 0, .ref (mm 1), .ref (mm 2), .ref (mm 3), .ref (mm 4), .ref (mm 5), .int 0, .int 0, .int 0, .int 0, .int 0, .long 0, .int 0, .int 0, .int 0, .int (-1), .ref (mm 6), .ref (mm 7), .ref (mm 8), .ref (mm 9), .ref (mm 10), .ref (mm 11), .ref (mm 12), .ref (mm 13), .int 0, .ref (mm 14), .ref (mm 15), .ref (mm 16), .ref (mm 17), .int 0, .int 0, .int 0, .ref (mm 18), .ref (mm 19), .int 0, .int 0, .ref (mm 20), .ref (mm 21), .ref (mm 22), .int 0, .int 0, .int 0, .int 0, .ref (mm 23), .ref (mm 24), .ref (mm 25), .int 0])), ((mm 7), .inl (E.2.2 0, 25, .inl (fun _ => 0)))] 84 11441
  refine mp_lsld hL 1 (by decide) (by decide) (by decide) (by decide +kernel) ?_
  show mp_W E X 4 847 [(3, .int 0), (2, .ref q2), (1, .ref q1), (0, .ref b)] [.int (xs 1), .ref q2, .int (-2)] [(q2, .inr (10, [.int 0, .ref (mm 1), .ref (mm 2), .ref (mm 3), .ref (mm 4), .ref (mm 5), .int 0, .int 0, .int 0, .int 0, .int 0, .long 0, .int 0, .int 0, .int 0, .int (-1), .ref (mm 6), .ref (mm 7), .ref (mm 8), .ref (mm 9), .ref (mm 10), .ref (mm 11), .ref (mm 12), .ref (mm 13), .int 0, .ref (mm 14), .ref (mm 15), .ref (mm 16), .ref (mm 17), .int 0, .int 0, .int 0, .ref (mm 18), .ref (mm 19), .int 0, .int 0, .ref (mm 20), .ref (mm 21), .ref (mm 22), .int 0, .int 0, .int 0, .int 0, .ref (mm 23), .ref (mm 24), .ref (mm 25), .int 0])), ((mm 7), .inl (E.2.2 0, 25, .inl (fun _ => 0)))] 84 11441
  refine mp_callV hF (As := [.int (xs 1)]) (rest := [.int (-2)]) (wr := []) (aX10_where_80 E q2 (mm 7) (mm 1) (mm 2) (mm 3) (mm 4) (mm 5) (mm 6) (mm 8) (mm 9) (mm 10) (mm 11) (mm 12) (mm 13) (mm 14) (mm 15) (mm 16) (mm 17) (mm 18) (mm 19) (mm 20) (mm 21) (mm 22) (mm 23) (mm 24) (mm 25) (xs 1)) mp_lkL_93 0 rfl [0, 1] [] rfl rfl rfl rfl rfl ⟨(Nat.le_of_ble_eq_true rfl), (Nat.le_of_ble_eq_true rfl), (Nat.le_of_ble_eq_true rfl), (Nat.le_of_ble_eq_true rfl)⟩ (Nat.le_of_ble_eq_true rfl) (by decide +kernel) (fun v8 w9 h10 => ?_)
  obtain ⟨rfl, rfl⟩ := h10
  show mp_W E X 4 850 [(3, .int 0), (2, .ref q2), (1, .ref q1), (0, .ref b)] [.int (-2), .int (-2)] [] 84 11441
  refine mp_run hF mp_tabL_ok [mp_h (.if_icmp .eq 1369) [2219]] (by decide +kernel) ?_
  refine And.intro (fun _ => ?_) (fun c11 => absurd c11 (by decide))
  show mp_W E X 4 2219 [(3, .int 0), (2, .ref q2), (1, .ref q1), (0, .ref b)] [] [] 84 11441
  exact mp_sub [3, 0] rfl [] rfl rfl (mp_lw_next hL (Nat.le_of_ble_eq_true rfl) (Nat.le_of_ble_eq_true rfl))

set_option maxHeartbeats 4000000 in
set_option maxRecDepth 100000 in
theorem mp_case_19 {E : mp_E} {X : mp_X} {b : Nat} {xs : Nat → Int32} (hL : mp_Lw E X b 6 xs) (q1 q2 : Nat) (bb mm : Nat → Nat) (vs ln wd : Nat → Int32) (hln : ∀ j, j < 4 → ln j = -1) (hwd : ∀ j, j < 4 → wd j = -1) : mp_W E X 4 855 [(3, .int 0), (2, .ref q2), (1, .ref q1), (0, .ref b)] [] (mp_w0 E q1 q2 bb mm vs ln wd) 84 11441 := by
  have hF : mp_F E X (RL, code, 4, (2048, 600000, 7302250, 84000), ret, false) := hL.1
  show mp_W E X 4 855 [(3, .int 0), (2, .ref q2), (1, .ref q1), (0, .ref b)] [] (mp_w0 E q1 q2 bb mm vs ln wd) 84 11441
  refine mp_run hF mp_tabL_ok [mp_i (.aload_n 1), mp_i (.aload_n 0), mp_i (.iload_n 3), mp_c (.iconst 1) 1, mp_i .iadd] (by decide +kernel) ?_
  intro z1 h2
  obtain rfl : z1 = 1 := h2.trans (by decide)
  show mp_W E X 4 860 [(3, .int 0), (2, .ref q2), (1, .ref q1), (0, .ref b)] [.int 1, .ref b, .ref q1] (mp_w0 E q1 q2 bb mm vs ln wd) 84 11441
  refine mp_lsld hL 1 (by decide) (by decide) (by decide) (by decide +kernel) ?_
  show mp_W E X 4 861 [(3, .int 0), (2, .ref q2), (1, .ref q1), (0, .ref b)] [.int (xs 1), .ref q1] (mp_w0 E q1 q2 bb mm vs ln wd) 84 11441
  refine mp_callV hF (As := [.int (xs 1)]) (rest := []) (wr := [(q2, .inr (10, [.int 0, .ref (mm 1), .ref (mm 2), .ref (mm 3), .ref (mm 4), .ref (mm 5), .int 0, .int 0, .int 0, .int 0, .int 0, .long 0, .int 0, .int 0, .int 0, .int (-1), .ref (mm 6), .ref (mm 7), .ref (mm 8), .ref (mm 9), .ref (mm 10), .ref (mm 11), .ref (mm 12), .ref (mm 13), .int 0, .ref (mm 14), .ref (mm 15), .ref (mm 16), .ref (mm 17), .int 0, .int 0, .int 0, .ref (mm 18), .ref (mm 19), .int 0, .int 0, .ref (mm 20), .ref (mm 21), .ref (mm 22), .int 0, .int 0, .int 0, .int 0, .ref (mm 23), .ref (mm 24), .ref (mm 25), .int 0])), ((mm 7), .inl (E.2.2 0, 25, .inl (fun _ => 0)))]) (aX9_rowed_81 E q1 (bb 16) (bb 17) (bb 1) (bb 36) (bb 37) (bb 40) (bb 46) (bb 49) (bb 52) (bb 54) (bb 30) (bb 31) (bb 32) (bb 33) (bb 34) (bb 35) (bb 18) (bb 19) (bb 20) (bb 21) (bb 22) (bb 23) (bb 24) (bb 25) (bb 26) (bb 27) (bb 28) (bb 29) (xs 1)) mp_lkL_94 0 rfl [0, 16, 17] [58, 65] rfl rfl rfl rfl rfl ⟨(Nat.le_of_ble_eq_true rfl), (Nat.le_of_ble_eq_true rfl), (Nat.le_of_ble_eq_true rfl), (Nat.le_of_ble_eq_true rfl)⟩ (Nat.le_of_ble_eq_true rfl) (by decide +kernel) (fun v3 w4 h5 => ?_)
  obtain ⟨rfl, rfl⟩ := h5
  show mp_W E X 4 864 [(3, .int 0), (2, .ref q2), (1, .ref q1), (0, .ref b)] [.int (-2)] [(q2, .inr (10, [.int 0, .ref (mm 1), .ref (mm 2), .ref (mm 3), .ref (mm 4), .ref (mm 5), .int 0, .int 0, .int 0, .int 0, .int 0, .long 0, .int 0, .int 0, .int 0, .int (-1), .ref (mm 6), .ref (mm 7), .ref (mm 8), .ref (mm 9), .ref (mm 10), .ref (mm 11), .ref (mm 12), .ref (mm 13), .int 0, .ref (mm 14), .ref (mm 15), .ref (mm 16), .ref (mm 17), .int 0, .int 0, .int 0, .ref (mm 18), .ref (mm 19), .int 0, .int 0, .ref (mm 20), .ref (mm 21), .ref (mm 22), .int 0, .int 0, .int 0, .int 0, .ref (mm 23), .ref (mm 24), .ref (mm 25), .int 0])), ((mm 7), .inl (E.2.2 0, 25, .inl (fun _ => 0)))] 84 11441
  refine mp_run hF mp_tabL_ok [mp_i (.aload_n 2), mp_i (.aload_n 0), mp_i (.iload_n 3), mp_c (.iconst 1) 1, mp_i .iadd] (by decide +kernel) ?_
  intro z6 h7
  obtain rfl : z6 = 1 := h7.trans (by decide)
  show mp_W E X 4 869 [(3, .int 0), (2, .ref q2), (1, .ref q1), (0, .ref b)] [.int 1, .ref b, .ref q2, .int (-2)] [(q2, .inr (10, [.int 0, .ref (mm 1), .ref (mm 2), .ref (mm 3), .ref (mm 4), .ref (mm 5), .int 0, .int 0, .int 0, .int 0, .int 0, .long 0, .int 0, .int 0, .int 0, .int (-1), .ref (mm 6), .ref (mm 7), .ref (mm 8), .ref (mm 9), .ref (mm 10), .ref (mm 11), .ref (mm 12), .ref (mm 13), .int 0, .ref (mm 14), .ref (mm 15), .ref (mm 16), .ref (mm 17), .int 0, .int 0, .int 0, .ref (mm 18), .ref (mm 19), .int 0, .int 0, .ref (mm 20), .ref (mm 21), .ref (mm 22), .int 0, .int 0, .int 0, .int 0, .ref (mm 23), .ref (mm 24), .ref (mm 25), .int 0])), ((mm 7), .inl (E.2.2 0, 25, .inl (fun _ => 0)))] 84 11441
  refine mp_lsld hL 1 (by decide) (by decide) (by decide) (by decide +kernel) ?_
  show mp_W E X 4 870 [(3, .int 0), (2, .ref q2), (1, .ref q1), (0, .ref b)] [.int (xs 1), .ref q2, .int (-2)] [(q2, .inr (10, [.int 0, .ref (mm 1), .ref (mm 2), .ref (mm 3), .ref (mm 4), .ref (mm 5), .int 0, .int 0, .int 0, .int 0, .int 0, .long 0, .int 0, .int 0, .int 0, .int (-1), .ref (mm 6), .ref (mm 7), .ref (mm 8), .ref (mm 9), .ref (mm 10), .ref (mm 11), .ref (mm 12), .ref (mm 13), .int 0, .ref (mm 14), .ref (mm 15), .ref (mm 16), .ref (mm 17), .int 0, .int 0, .int 0, .ref (mm 18), .ref (mm 19), .int 0, .int 0, .ref (mm 20), .ref (mm 21), .ref (mm 22), .int 0, .int 0, .int 0, .int 0, .ref (mm 23), .ref (mm 24), .ref (mm 25), .int 0])), ((mm 7), .inl (E.2.2 0, 25, .inl (fun _ => 0)))] 84 11441
  refine mp_callV hF (As := [.int (xs 1)]) (rest := [.int (-2)]) (wr := []) (aX10_rowed_82 E q2 (mm 7) (mm 1) (mm 2) (mm 3) (mm 4) (mm 5) (mm 6) (mm 8) (mm 9) (mm 10) (mm 11) (mm 12) (mm 13) (mm 14) (mm 15) (mm 16) (mm 17) (mm 18) (mm 19) (mm 20) (mm 21) (mm 22) (mm 23) (mm 24) (mm 25) (xs 1)) mp_lkL_97 0 rfl [0, 1] [] rfl rfl rfl rfl rfl ⟨(Nat.le_of_ble_eq_true rfl), (Nat.le_of_ble_eq_true rfl), (Nat.le_of_ble_eq_true rfl), (Nat.le_of_ble_eq_true rfl)⟩ (Nat.le_of_ble_eq_true rfl) (by decide +kernel) (fun v8 w9 h10 => ?_)
  obtain ⟨rfl, rfl⟩ := h10
  show mp_W E X 4 873 [(3, .int 0), (2, .ref q2), (1, .ref q1), (0, .ref b)] [.int (-2), .int (-2)] [] 84 11441
  refine mp_run hF mp_tabL_ok [mp_h (.if_icmp .eq 1346) [2219]] (by decide +kernel) ?_
  refine And.intro (fun _ => ?_) (fun c11 => absurd c11 (by decide))
  show mp_W E X 4 2219 [(3, .int 0), (2, .ref q2), (1, .ref q1), (0, .ref b)] [] [] 84 11441
  exact mp_sub [3, 0] rfl [] rfl rfl (mp_lw_next hL (Nat.le_of_ble_eq_true rfl) (Nat.le_of_ble_eq_true rfl))

set_option maxHeartbeats 4000000 in
set_option maxRecDepth 100000 in
theorem mp_case_20 {E : mp_E} {X : mp_X} {b : Nat} {xs : Nat → Int32} (hL : mp_Lw E X b 6 xs) (q1 q2 : Nat) (bb mm : Nat → Nat) (vs ln wd : Nat → Int32) (hln : ∀ j, j < 4 → ln j = -1) (hwd : ∀ j, j < 4 → wd j = -1) : mp_W E X 4 878 [(3, .int 0), (2, .ref q2), (1, .ref q1), (0, .ref b)] [] (mp_w0 E q1 q2 bb mm vs ln wd) 84 11441 := by
  have hF : mp_F E X (RL, code, 4, (2048, 600000, 7302250, 84000), ret, false) := hL.1
  show mp_W E X 4 878 [(3, .int 0), (2, .ref q2), (1, .ref q1), (0, .ref b)] [] (mp_w0 E q1 q2 bb mm vs ln wd) 84 11441
  refine mp_run hF mp_tabL_ok [mp_i (.aload_n 1), mp_i (.aload_n 0), mp_i (.iload_n 3), mp_c (.iconst 1) 1, mp_i .iadd] (by decide +kernel) ?_
  intro z1 h2
  obtain rfl : z1 = 1 := h2.trans (by decide)
  show mp_W E X 4 883 [(3, .int 0), (2, .ref q2), (1, .ref q1), (0, .ref b)] [.int 1, .ref b, .ref q1] (mp_w0 E q1 q2 bb mm vs ln wd) 84 11441
  refine mp_lsld hL 1 (by decide) (by decide) (by decide) (by decide +kernel) ?_
  show mp_W E X 4 884 [(3, .int 0), (2, .ref q2), (1, .ref q1), (0, .ref b)] [.int (xs 1), .ref q1] (mp_w0 E q1 q2 bb mm vs ln wd) 84 11441
  refine mp_run hF mp_tabL_ok [mp_i (.aload_n 0), mp_i (.iload_n 3), mp_c (.iconst 2) 2, mp_i .iadd] (by decide +kernel) ?_
  intro z3 h4
  obtain rfl : z3 = 2 := h4.trans (by decide)
  show mp_W E X 4 888 [(3, .int 0), (2, .ref q2), (1, .ref q1), (0, .ref b)] [.int 2, .ref b, .int (xs 1), .ref q1] (mp_w0 E q1 q2 bb mm vs ln wd) 84 11441
  refine mp_lsld hL 2 (by decide) (by decide) (by decide) (by decide +kernel) ?_
  show mp_W E X 4 889 [(3, .int 0), (2, .ref q2), (1, .ref q1), (0, .ref b)] [.int (xs 2), .int (xs 1), .ref q1] (mp_w0 E q1 q2 bb mm vs ln wd) 84 11441
  refine mp_callV hF (As := [.int (xs 1), .int (xs 2)]) (rest := []) (wr := [(q2, .inr (10, [.int 0, .ref (mm 1), .ref (mm 2), .ref (mm 3), .ref (mm 4), .ref (mm 5), .int 0, .int 0, .int 0, .int 0, .int 0, .long 0, .int 0, .int 0, .int 0, .int (-1), .ref (mm 6), .ref (mm 7), .ref (mm 8), .ref (mm 9), .ref (mm 10), .ref (mm 11), .ref (mm 12), .ref (mm 13), .int 0, .ref (mm 14), .ref (mm 15), .ref (mm 16), .ref (mm 17), .int 0, .int 0, .int 0, .ref (mm 18), .ref (mm 19), .int 0, .int 0, .ref (mm 20), .ref (mm 21), .ref (mm 22), .int 0, .int 0, .int 0, .int 0, .ref (mm 23), .ref (mm 24), .ref (mm 25), .int 0])), ((mm 7), .inl (E.2.2 0, 25, .inl (fun _ => 0)))]) (aX9_rows_83 E q1 (bb 16) (bb 17) (bb 1) (bb 36) (bb 37) (bb 40) (bb 46) (bb 49) (bb 52) (bb 54) (bb 30) (bb 31) (bb 32) (bb 33) (bb 34) (bb 35) (bb 18) (bb 19) (bb 20) (bb 21) (bb 22) (bb 23) (bb 24) (bb 25) (bb 26) (bb 27) (bb 28) (bb 29) (xs 1) (xs 2)) mp_lkL_98 0 rfl [0, 16, 17] [58, 65] rfl rfl rfl rfl rfl ⟨(Nat.le_of_ble_eq_true rfl), (Nat.le_of_ble_eq_true rfl), (Nat.le_of_ble_eq_true rfl), (Nat.le_of_ble_eq_true rfl)⟩ (Nat.le_of_ble_eq_true rfl) (by decide +kernel) (fun v5 w6 h7 => ?_)
  obtain ⟨rfl, rfl⟩ := h7
  show mp_W E X 4 892 [(3, .int 0), (2, .ref q2), (1, .ref q1), (0, .ref b)] [.int (-2)] [(q2, .inr (10, [.int 0, .ref (mm 1), .ref (mm 2), .ref (mm 3), .ref (mm 4), .ref (mm 5), .int 0, .int 0, .int 0, .int 0, .int 0, .long 0, .int 0, .int 0, .int 0, .int (-1), .ref (mm 6), .ref (mm 7), .ref (mm 8), .ref (mm 9), .ref (mm 10), .ref (mm 11), .ref (mm 12), .ref (mm 13), .int 0, .ref (mm 14), .ref (mm 15), .ref (mm 16), .ref (mm 17), .int 0, .int 0, .int 0, .ref (mm 18), .ref (mm 19), .int 0, .int 0, .ref (mm 20), .ref (mm 21), .ref (mm 22), .int 0, .int 0, .int 0, .int 0, .ref (mm 23), .ref (mm 24), .ref (mm 25), .int 0])), ((mm 7), .inl (E.2.2 0, 25, .inl (fun _ => 0)))] 84 11441
  refine mp_run hF mp_tabL_ok [mp_i (.aload_n 2), mp_i (.aload_n 0), mp_i (.iload_n 3), mp_c (.iconst 1) 1, mp_i .iadd] (by decide +kernel) ?_
  intro z8 h9
  obtain rfl : z8 = 1 := h9.trans (by decide)
  show mp_W E X 4 897 [(3, .int 0), (2, .ref q2), (1, .ref q1), (0, .ref b)] [.int 1, .ref b, .ref q2, .int (-2)] [(q2, .inr (10, [.int 0, .ref (mm 1), .ref (mm 2), .ref (mm 3), .ref (mm 4), .ref (mm 5), .int 0, .int 0, .int 0, .int 0, .int 0, .long 0, .int 0, .int 0, .int 0, .int (-1), .ref (mm 6), .ref (mm 7), .ref (mm 8), .ref (mm 9), .ref (mm 10), .ref (mm 11), .ref (mm 12), .ref (mm 13), .int 0, .ref (mm 14), .ref (mm 15), .ref (mm 16), .ref (mm 17), .int 0, .int 0, .int 0, .ref (mm 18), .ref (mm 19), .int 0, .int 0, .ref (mm 20), .ref (mm 21), .ref (mm 22), .int 0, .int 0, .int 0, .int 0, .ref (mm 23), .ref (mm 24), .ref (mm 25), .int 0])), ((mm 7), .inl (E.2.2 0, 25, .inl (fun _ => 0)))] 84 11441
  refine mp_lsld hL 1 (by decide) (by decide) (by decide) (by decide +kernel) ?_
  show mp_W E X 4 898 [(3, .int 0), (2, .ref q2), (1, .ref q1), (0, .ref b)] [.int (xs 1), .ref q2, .int (-2)] [(q2, .inr (10, [.int 0, .ref (mm 1), .ref (mm 2), .ref (mm 3), .ref (mm 4), .ref (mm 5), .int 0, .int 0, .int 0, .int 0, .int 0, .long 0, .int 0, .int 0, .int 0, .int (-1), .ref (mm 6), .ref (mm 7), .ref (mm 8), .ref (mm 9), .ref (mm 10), .ref (mm 11), .ref (mm 12), .ref (mm 13), .int 0, .ref (mm 14), .ref (mm 15), .ref (mm 16), .ref (mm 17), .int 0, .int 0, .int 0, .ref (mm 18), .ref (mm 19), .int 0, .int 0, .ref (mm 20), .ref (mm 21), .ref (mm 22), .int 0, .int 0, .int 0, .int 0, .ref (mm 23), .ref (mm 24), .ref (mm 25), .int 0])), ((mm 7), .inl (E.2.2 0, 25, .inl (fun _ => 0)))] 84 11441
  refine mp_run hF mp_tabL_ok [mp_i (.aload_n 0), mp_i (.iload_n 3), mp_c (.iconst 2) 2, mp_i .iadd] (by decide +kernel) ?_
  intro z10 h11
  obtain rfl : z10 = 2 := h11.trans (by decide)
  show mp_W E X 4 902 [(3, .int 0), (2, .ref q2), (1, .ref q1), (0, .ref b)] [.int 2, .ref b, .int (xs 1), .ref q2, .int (-2)] [(q2, .inr (10, [.int 0, .ref (mm 1), .ref (mm 2), .ref (mm 3), .ref (mm 4), .ref (mm 5), .int 0, .int 0, .int 0, .int 0, .int 0, .long 0, .int 0, .int 0, .int 0, .int (-1), .ref (mm 6), .ref (mm 7), .ref (mm 8), .ref (mm 9), .ref (mm 10), .ref (mm 11), .ref (mm 12), .ref (mm 13), .int 0, .ref (mm 14), .ref (mm 15), .ref (mm 16), .ref (mm 17), .int 0, .int 0, .int 0, .ref (mm 18), .ref (mm 19), .int 0, .int 0, .ref (mm 20), .ref (mm 21), .ref (mm 22), .int 0, .int 0, .int 0, .int 0, .ref (mm 23), .ref (mm 24), .ref (mm 25), .int 0])), ((mm 7), .inl (E.2.2 0, 25, .inl (fun _ => 0)))] 84 11441
  refine mp_lsld hL 2 (by decide) (by decide) (by decide) (by decide +kernel) ?_
  show mp_W E X 4 903 [(3, .int 0), (2, .ref q2), (1, .ref q1), (0, .ref b)] [.int (xs 2), .int (xs 1), .ref q2, .int (-2)] [(q2, .inr (10, [.int 0, .ref (mm 1), .ref (mm 2), .ref (mm 3), .ref (mm 4), .ref (mm 5), .int 0, .int 0, .int 0, .int 0, .int 0, .long 0, .int 0, .int 0, .int 0, .int (-1), .ref (mm 6), .ref (mm 7), .ref (mm 8), .ref (mm 9), .ref (mm 10), .ref (mm 11), .ref (mm 12), .ref (mm 13), .int 0, .ref (mm 14), .ref (mm 15), .ref (mm 16), .ref (mm 17), .int 0, .int 0, .int 0, .ref (mm 18), .ref (mm 19), .int 0, .int 0, .ref (mm 20), .ref (mm 21), .ref (mm 22), .int 0, .int 0, .int 0, .int 0, .ref (mm 23), .ref (mm 24), .ref (mm 25), .int 0])), ((mm 7), .inl (E.2.2 0, 25, .inl (fun _ => 0)))] 84 11441
  refine mp_callV hF (As := [.int (xs 1), .int (xs 2)]) (rest := [.int (-2)]) (wr := []) (aX10_rows_84 E q2 (mm 7) (mm 1) (mm 2) (mm 3) (mm 4) (mm 5) (mm 6) (mm 8) (mm 9) (mm 10) (mm 11) (mm 12) (mm 13) (mm 14) (mm 15) (mm 16) (mm 17) (mm 18) (mm 19) (mm 20) (mm 21) (mm 22) (mm 23) (mm 24) (mm 25) (xs 1) (xs 2)) mp_lkL_101 0 rfl [0, 1] [] rfl rfl rfl rfl rfl ⟨(Nat.le_of_ble_eq_true rfl), (Nat.le_of_ble_eq_true rfl), (Nat.le_of_ble_eq_true rfl), (Nat.le_of_ble_eq_true rfl)⟩ (Nat.le_of_ble_eq_true rfl) (by decide +kernel) (fun v12 w13 h14 => ?_)
  obtain ⟨rfl, rfl⟩ := h14
  show mp_W E X 4 906 [(3, .int 0), (2, .ref q2), (1, .ref q1), (0, .ref b)] [.int (-2), .int (-2)] [] 84 11441
  refine mp_run hF mp_tabL_ok [mp_h (.if_icmp .eq 1313) [2219]] (by decide +kernel) ?_
  refine And.intro (fun _ => ?_) (fun c15 => absurd c15 (by decide))
  show mp_W E X 4 2219 [(3, .int 0), (2, .ref q2), (1, .ref q1), (0, .ref b)] [] [] 84 11441
  exact mp_sub [3, 0] rfl [] rfl rfl (mp_lw_next hL (Nat.le_of_ble_eq_true rfl) (Nat.le_of_ble_eq_true rfl))

set_option maxHeartbeats 4000000 in
set_option maxRecDepth 100000 in
theorem mp_case_21 {E : mp_E} {X : mp_X} {b : Nat} {xs : Nat → Int32} (hL : mp_Lw E X b 6 xs) (q1 q2 : Nat) (bb mm : Nat → Nat) (vs ln wd : Nat → Int32) (hln : ∀ j, j < 4 → ln j = -1) (hwd : ∀ j, j < 4 → wd j = -1) : mp_W E X 4 911 [(3, .int 0), (2, .ref q2), (1, .ref q1), (0, .ref b)] [] (mp_w0 E q1 q2 bb mm vs ln wd) 84 11441 := by
  have hF : mp_F E X (RL, code, 4, (2048, 600000, 7302250, 84000), ret, false) := hL.1
  show mp_W E X 4 911 [(3, .int 0), (2, .ref q2), (1, .ref q1), (0, .ref b)] [] (mp_w0 E q1 q2 bb mm vs ln wd) 84 11441
  refine mp_run hF mp_tabL_ok [mp_i (.aload_n 1), mp_i (.aload_n 0), mp_i (.iload_n 3), mp_c (.iconst 1) 1, mp_i .iadd] (by decide +kernel) ?_
  intro z1 h2
  obtain rfl : z1 = 1 := h2.trans (by decide)
  show mp_W E X 4 916 [(3, .int 0), (2, .ref q2), (1, .ref q1), (0, .ref b)] [.int 1, .ref b, .ref q1] (mp_w0 E q1 q2 bb mm vs ln wd) 84 11441
  refine mp_lsld hL 1 (by decide) (by decide) (by decide) (by decide +kernel) ?_
  show mp_W E X 4 917 [(3, .int 0), (2, .ref q2), (1, .ref q1), (0, .ref b)] [.int (xs 1), .ref q1] (mp_w0 E q1 q2 bb mm vs ln wd) 84 11441
  refine mp_callV hF (As := [.int (xs 1)]) (rest := []) (wr := [(q2, .inr (10, [.int 0, .ref (mm 1), .ref (mm 2), .ref (mm 3), .ref (mm 4), .ref (mm 5), .int 0, .int 0, .int 0, .int 0, .int 0, .long 0, .int 0, .int 0, .int 0, .int (-1), .ref (mm 6), .ref (mm 7), .ref (mm 8), .ref (mm 9), .ref (mm 10), .ref (mm 11), .ref (mm 12), .ref (mm 13), .int 0, .ref (mm 14), .ref (mm 15), .ref (mm 16), .ref (mm 17), .int 0, .int 0, .int 0, .ref (mm 18), .ref (mm 19), .int 0, .int 0, .ref (mm 20), .ref (mm 21), .ref (mm 22), .int 0, .int 0, .int 0, .int 0, .ref (mm 23), .ref (mm 24), .ref (mm 25), .int 0])), ((mm 7), .inl (E.2.2 0, 25, .inl (fun _ => 0)))]) (aX9_says_85 E q1 (bb 16) (bb 17) (bb 1) (bb 36) (bb 37) (bb 40) (bb 46) (bb 49) (bb 52) (bb 54) (bb 30) (bb 31) (bb 32) (bb 33) (bb 34) (bb 35) (bb 18) (bb 19) (bb 20) (bb 21) (bb 22) (bb 23) (bb 24) (bb 25) (bb 26) (bb 27) (bb 28) (bb 29) (xs 1)) mp_lkL_102 0 rfl [0, 16, 17] [58, 65] rfl rfl rfl rfl rfl ⟨(Nat.le_of_ble_eq_true rfl), (Nat.le_of_ble_eq_true rfl), (Nat.le_of_ble_eq_true rfl), (Nat.le_of_ble_eq_true rfl)⟩ (Nat.le_of_ble_eq_true rfl) (by decide +kernel) (fun v3 w4 h5 => ?_)
  obtain ⟨rfl, rfl⟩ := h5
  show mp_W E X 4 920 [(3, .int 0), (2, .ref q2), (1, .ref q1), (0, .ref b)] [.int (-2)] [(q2, .inr (10, [.int 0, .ref (mm 1), .ref (mm 2), .ref (mm 3), .ref (mm 4), .ref (mm 5), .int 0, .int 0, .int 0, .int 0, .int 0, .long 0, .int 0, .int 0, .int 0, .int (-1), .ref (mm 6), .ref (mm 7), .ref (mm 8), .ref (mm 9), .ref (mm 10), .ref (mm 11), .ref (mm 12), .ref (mm 13), .int 0, .ref (mm 14), .ref (mm 15), .ref (mm 16), .ref (mm 17), .int 0, .int 0, .int 0, .ref (mm 18), .ref (mm 19), .int 0, .int 0, .ref (mm 20), .ref (mm 21), .ref (mm 22), .int 0, .int 0, .int 0, .int 0, .ref (mm 23), .ref (mm 24), .ref (mm 25), .int 0])), ((mm 7), .inl (E.2.2 0, 25, .inl (fun _ => 0)))] 84 11441
  refine mp_run hF mp_tabL_ok [mp_i (.aload_n 2), mp_i (.aload_n 0), mp_i (.iload_n 3), mp_c (.iconst 1) 1, mp_i .iadd] (by decide +kernel) ?_
  intro z6 h7
  obtain rfl : z6 = 1 := h7.trans (by decide)
  show mp_W E X 4 925 [(3, .int 0), (2, .ref q2), (1, .ref q1), (0, .ref b)] [.int 1, .ref b, .ref q2, .int (-2)] [(q2, .inr (10, [.int 0, .ref (mm 1), .ref (mm 2), .ref (mm 3), .ref (mm 4), .ref (mm 5), .int 0, .int 0, .int 0, .int 0, .int 0, .long 0, .int 0, .int 0, .int 0, .int (-1), .ref (mm 6), .ref (mm 7), .ref (mm 8), .ref (mm 9), .ref (mm 10), .ref (mm 11), .ref (mm 12), .ref (mm 13), .int 0, .ref (mm 14), .ref (mm 15), .ref (mm 16), .ref (mm 17), .int 0, .int 0, .int 0, .ref (mm 18), .ref (mm 19), .int 0, .int 0, .ref (mm 20), .ref (mm 21), .ref (mm 22), .int 0, .int 0, .int 0, .int 0, .ref (mm 23), .ref (mm 24), .ref (mm 25), .int 0])), ((mm 7), .inl (E.2.2 0, 25, .inl (fun _ => 0)))] 84 11441
  refine mp_lsld hL 1 (by decide) (by decide) (by decide) (by decide +kernel) ?_
  show mp_W E X 4 926 [(3, .int 0), (2, .ref q2), (1, .ref q1), (0, .ref b)] [.int (xs 1), .ref q2, .int (-2)] [(q2, .inr (10, [.int 0, .ref (mm 1), .ref (mm 2), .ref (mm 3), .ref (mm 4), .ref (mm 5), .int 0, .int 0, .int 0, .int 0, .int 0, .long 0, .int 0, .int 0, .int 0, .int (-1), .ref (mm 6), .ref (mm 7), .ref (mm 8), .ref (mm 9), .ref (mm 10), .ref (mm 11), .ref (mm 12), .ref (mm 13), .int 0, .ref (mm 14), .ref (mm 15), .ref (mm 16), .ref (mm 17), .int 0, .int 0, .int 0, .ref (mm 18), .ref (mm 19), .int 0, .int 0, .ref (mm 20), .ref (mm 21), .ref (mm 22), .int 0, .int 0, .int 0, .int 0, .ref (mm 23), .ref (mm 24), .ref (mm 25), .int 0])), ((mm 7), .inl (E.2.2 0, 25, .inl (fun _ => 0)))] 84 11441
  refine mp_callV hF (As := [.int (xs 1)]) (rest := [.int (-2)]) (wr := []) (aX10_says_86 E q2 (mm 7) (mm 1) (mm 2) (mm 3) (mm 4) (mm 5) (mm 6) (mm 8) (mm 9) (mm 10) (mm 11) (mm 12) (mm 13) (mm 14) (mm 15) (mm 16) (mm 17) (mm 18) (mm 19) (mm 20) (mm 21) (mm 22) (mm 23) (mm 24) (mm 25) (xs 1)) mp_lkL_105 0 rfl [0, 1] [] rfl rfl rfl rfl rfl ⟨(Nat.le_of_ble_eq_true rfl), (Nat.le_of_ble_eq_true rfl), (Nat.le_of_ble_eq_true rfl), (Nat.le_of_ble_eq_true rfl)⟩ (Nat.le_of_ble_eq_true rfl) (by decide +kernel) (fun v8 w9 h10 => ?_)
  obtain ⟨rfl, rfl⟩ := h10
  show mp_W E X 4 929 [(3, .int 0), (2, .ref q2), (1, .ref q1), (0, .ref b)] [.int (-2), .int (-2)] [] 84 11441
  refine mp_run hF mp_tabL_ok [mp_h (.if_icmp .eq 1290) [2219]] (by decide +kernel) ?_
  refine And.intro (fun _ => ?_) (fun c11 => absurd c11 (by decide))
  show mp_W E X 4 2219 [(3, .int 0), (2, .ref q2), (1, .ref q1), (0, .ref b)] [] [] 84 11441
  exact mp_sub [3, 0] rfl [] rfl rfl (mp_lw_next hL (Nat.le_of_ble_eq_true rfl) (Nat.le_of_ble_eq_true rfl))

set_option maxHeartbeats 4000000 in
set_option maxRecDepth 100000 in
theorem mp_case_22 {E : mp_E} {X : mp_X} {b : Nat} {xs : Nat → Int32} (hL : mp_Lw E X b 6 xs) (q1 q2 : Nat) (bb mm : Nat → Nat) (vs ln wd : Nat → Int32) (hln : ∀ j, j < 4 → ln j = -1) (hwd : ∀ j, j < 4 → wd j = -1) : mp_W E X 4 934 [(3, .int 0), (2, .ref q2), (1, .ref q1), (0, .ref b)] [] (mp_w0 E q1 q2 bb mm vs ln wd) 84 11441 := by
  have hF : mp_F E X (RL, code, 4, (2048, 600000, 7302250, 84000), ret, false) := hL.1
  show mp_W E X 4 934 [(3, .int 0), (2, .ref q2), (1, .ref q1), (0, .ref b)] [] (mp_w0 E q1 q2 bb mm vs ln wd) 84 11441
  refine mp_run hF mp_tabL_ok [mp_i (.aload_n 1)] (by decide +kernel) ?_
  show mp_W E X 4 935 [(3, .int 0), (2, .ref q2), (1, .ref q1), (0, .ref b)] [.ref q1] (mp_w0 E q1 q2 bb mm vs ln wd) 84 11441
  refine mp_callV hF (As := []) (rest := []) (wr := [(q2, .inr (10, [.int 0, .ref (mm 1), .ref (mm 2), .ref (mm 3), .ref (mm 4), .ref (mm 5), .int 0, .int 0, .int 0, .int 0, .int 0, .long 0, .int 0, .int 0, .int 0, .int (-1), .ref (mm 6), .ref (mm 7), .ref (mm 8), .ref (mm 9), .ref (mm 10), .ref (mm 11), .ref (mm 12), .ref (mm 13), .int 0, .ref (mm 14), .ref (mm 15), .ref (mm 16), .ref (mm 17), .int 0, .int 0, .int 0, .ref (mm 18), .ref (mm 19), .int 0, .int 0, .ref (mm 20), .ref (mm 21), .ref (mm 22), .int 0, .int 0, .int 0, .int 0, .ref (mm 23), .ref (mm 24), .ref (mm 25), .int 0])), ((mm 6), .inl (E.2.2 0, 5, .inl (fun _ => 0)))]) (aX9_passes_87 E q1 (bb 16) (bb 17) (bb 1) (bb 36) (bb 37) (bb 40) (bb 46) (bb 49) (bb 52) (bb 54) (bb 30) (bb 31) (bb 32) (bb 33) (bb 34) (bb 35) (bb 18) (bb 19) (bb 20) (bb 21) (bb 22) (bb 23) (bb 24) (bb 25) (bb 26) (bb 27) (bb 28) (bb 29)) mp_lkL_106 0 rfl [0, 16, 17] [58, 64] rfl rfl rfl rfl rfl ⟨(Nat.le_of_ble_eq_true rfl), (Nat.le_of_ble_eq_true rfl), (Nat.le_of_ble_eq_true rfl), (Nat.le_of_ble_eq_true rfl)⟩ (Nat.le_of_ble_eq_true rfl) (by decide +kernel) (fun v1 w2 h3 => ?_)
  obtain ⟨rfl, rfl⟩ := h3
  show mp_W E X 4 938 [(3, .int 0), (2, .ref q2), (1, .ref q1), (0, .ref b)] [.int (-2)] [(q2, .inr (10, [.int 0, .ref (mm 1), .ref (mm 2), .ref (mm 3), .ref (mm 4), .ref (mm 5), .int 0, .int 0, .int 0, .int 0, .int 0, .long 0, .int 0, .int 0, .int 0, .int (-1), .ref (mm 6), .ref (mm 7), .ref (mm 8), .ref (mm 9), .ref (mm 10), .ref (mm 11), .ref (mm 12), .ref (mm 13), .int 0, .ref (mm 14), .ref (mm 15), .ref (mm 16), .ref (mm 17), .int 0, .int 0, .int 0, .ref (mm 18), .ref (mm 19), .int 0, .int 0, .ref (mm 20), .ref (mm 21), .ref (mm 22), .int 0, .int 0, .int 0, .int 0, .ref (mm 23), .ref (mm 24), .ref (mm 25), .int 0])), ((mm 6), .inl (E.2.2 0, 5, .inl (fun _ => 0)))] 84 11441
  refine mp_run hF mp_tabL_ok [mp_i (.aload_n 2)] (by decide +kernel) ?_
  show mp_W E X 4 939 [(3, .int 0), (2, .ref q2), (1, .ref q1), (0, .ref b)] [.ref q2, .int (-2)] [(q2, .inr (10, [.int 0, .ref (mm 1), .ref (mm 2), .ref (mm 3), .ref (mm 4), .ref (mm 5), .int 0, .int 0, .int 0, .int 0, .int 0, .long 0, .int 0, .int 0, .int 0, .int (-1), .ref (mm 6), .ref (mm 7), .ref (mm 8), .ref (mm 9), .ref (mm 10), .ref (mm 11), .ref (mm 12), .ref (mm 13), .int 0, .ref (mm 14), .ref (mm 15), .ref (mm 16), .ref (mm 17), .int 0, .int 0, .int 0, .ref (mm 18), .ref (mm 19), .int 0, .int 0, .ref (mm 20), .ref (mm 21), .ref (mm 22), .int 0, .int 0, .int 0, .int 0, .ref (mm 23), .ref (mm 24), .ref (mm 25), .int 0])), ((mm 6), .inl (E.2.2 0, 5, .inl (fun _ => 0)))] 84 11441
  refine mp_callV hF (As := []) (rest := [.int (-2)]) (wr := []) (aX10_passes_88 E q2 (mm 6) (mm 1) (mm 2) (mm 3) (mm 4) (mm 5) (mm 7) (mm 8) (mm 9) (mm 10) (mm 11) (mm 12) (mm 13) (mm 14) (mm 15) (mm 16) (mm 17) (mm 18) (mm 19) (mm 20) (mm 21) (mm 22) (mm 23) (mm 24) (mm 25)) mp_lkL_109 0 rfl [0, 1] [] rfl rfl rfl rfl rfl ⟨(Nat.le_of_ble_eq_true rfl), (Nat.le_of_ble_eq_true rfl), (Nat.le_of_ble_eq_true rfl), (Nat.le_of_ble_eq_true rfl)⟩ (Nat.le_of_ble_eq_true rfl) (by decide +kernel) (fun v4 w5 h6 => ?_)
  obtain ⟨rfl, rfl⟩ := h6
  show mp_W E X 4 942 [(3, .int 0), (2, .ref q2), (1, .ref q1), (0, .ref b)] [.int (-2), .int (-2)] [] 84 11441
  refine mp_run hF mp_tabL_ok [mp_h (.if_icmp .eq 1277) [2219]] (by decide +kernel) ?_
  refine And.intro (fun _ => ?_) (fun c7 => absurd c7 (by decide))
  show mp_W E X 4 2219 [(3, .int 0), (2, .ref q2), (1, .ref q1), (0, .ref b)] [] [] 84 11441
  exact mp_sub [3, 0] rfl [] rfl rfl (mp_lw_next hL (Nat.le_of_ble_eq_true rfl) (Nat.le_of_ble_eq_true rfl))

set_option maxHeartbeats 4000000 in
set_option maxRecDepth 100000 in
theorem mp_case_23 {E : mp_E} {X : mp_X} {b : Nat} {xs : Nat → Int32} (hL : mp_Lw E X b 6 xs) (q1 q2 : Nat) (bb mm : Nat → Nat) (vs ln wd : Nat → Int32) (hln : ∀ j, j < 4 → ln j = -1) (hwd : ∀ j, j < 4 → wd j = -1) : mp_W E X 4 947 [(3, .int 0), (2, .ref q2), (1, .ref q1), (0, .ref b)] [] (mp_w0 E q1 q2 bb mm vs ln wd) 84 11441 := by
  have hF : mp_F E X (RL, code, 4, (2048, 600000, 7302250, 84000), ret, false) := hL.1
  show mp_W E X 4 947 [(3, .int 0), (2, .ref q2), (1, .ref q1), (0, .ref b)] [] (mp_w0 E q1 q2 bb mm vs ln wd) 84 11441
  refine mp_run hF mp_tabL_ok [mp_i (.aload_n 1)] (by decide +kernel) ?_
  show mp_W E X 4 948 [(3, .int 0), (2, .ref q2), (1, .ref q1), (0, .ref b)] [.ref q1] (mp_w0 E q1 q2 bb mm vs ln wd) 84 11441
  refine mp_callV hF (As := []) (rest := []) (wr := [(q2, .inr (10, [.int 0, .ref (mm 1), .ref (mm 2), .ref (mm 3), .ref (mm 4), .ref (mm 5), .int 0, .int 0, .int 0, .int 0, .int 0, .long 0, .int 0, .int 0, .int 0, .int (-1), .ref (mm 6), .ref (mm 7), .ref (mm 8), .ref (mm 9), .ref (mm 10), .ref (mm 11), .ref (mm 12), .ref (mm 13), .int 0, .ref (mm 14), .ref (mm 15), .ref (mm 16), .ref (mm 17), .int 0, .int 0, .int 0, .ref (mm 18), .ref (mm 19), .int 0, .int 0, .ref (mm 20), .ref (mm 21), .ref (mm 22), .int 0, .int 0, .int 0, .int 0, .ref (mm 23), .ref (mm 24), .ref (mm 25), .int 0])), ((mm 6), .inl (E.2.2 0, 5, .inl (fun _ => 0)))]) (aX9_undo_89 E q1 (bb 16) (bb 17) (bb 1) (bb 36) (bb 37) (bb 40) (bb 46) (bb 49) (bb 52) (bb 54) (bb 30) (bb 31) (bb 32) (bb 33) (bb 34) (bb 35) (bb 18) (bb 19) (bb 20) (bb 21) (bb 22) (bb 23) (bb 24) (bb 25) (bb 26) (bb 27) (bb 28) (bb 29)) mp_lkL_110 0 rfl [0, 16, 17] [58, 64] rfl rfl rfl rfl rfl ⟨(Nat.le_of_ble_eq_true rfl), (Nat.le_of_ble_eq_true rfl), (Nat.le_of_ble_eq_true rfl), (Nat.le_of_ble_eq_true rfl)⟩ (Nat.le_of_ble_eq_true rfl) (by decide +kernel) (fun v1 w2 h3 => ?_)
  obtain ⟨rfl, rfl⟩ := h3
  show mp_W E X 4 951 [(3, .int 0), (2, .ref q2), (1, .ref q1), (0, .ref b)] [.int (-2)] [(q2, .inr (10, [.int 0, .ref (mm 1), .ref (mm 2), .ref (mm 3), .ref (mm 4), .ref (mm 5), .int 0, .int 0, .int 0, .int 0, .int 0, .long 0, .int 0, .int 0, .int 0, .int (-1), .ref (mm 6), .ref (mm 7), .ref (mm 8), .ref (mm 9), .ref (mm 10), .ref (mm 11), .ref (mm 12), .ref (mm 13), .int 0, .ref (mm 14), .ref (mm 15), .ref (mm 16), .ref (mm 17), .int 0, .int 0, .int 0, .ref (mm 18), .ref (mm 19), .int 0, .int 0, .ref (mm 20), .ref (mm 21), .ref (mm 22), .int 0, .int 0, .int 0, .int 0, .ref (mm 23), .ref (mm 24), .ref (mm 25), .int 0])), ((mm 6), .inl (E.2.2 0, 5, .inl (fun _ => 0)))] 84 11441
  refine mp_run hF mp_tabL_ok [mp_i (.aload_n 2)] (by decide +kernel) ?_
  show mp_W E X 4 952 [(3, .int 0), (2, .ref q2), (1, .ref q1), (0, .ref b)] [.ref q2, .int (-2)] [(q2, .inr (10, [.int 0, .ref (mm 1), .ref (mm 2), .ref (mm 3), .ref (mm 4), .ref (mm 5), .int 0, .int 0, .int 0, .int 0, .int 0, .long 0, .int 0, .int 0, .int 0, .int (-1), .ref (mm 6), .ref (mm 7), .ref (mm 8), .ref (mm 9), .ref (mm 10), .ref (mm 11), .ref (mm 12), .ref (mm 13), .int 0, .ref (mm 14), .ref (mm 15), .ref (mm 16), .ref (mm 17), .int 0, .int 0, .int 0, .ref (mm 18), .ref (mm 19), .int 0, .int 0, .ref (mm 20), .ref (mm 21), .ref (mm 22), .int 0, .int 0, .int 0, .int 0, .ref (mm 23), .ref (mm 24), .ref (mm 25), .int 0])), ((mm 6), .inl (E.2.2 0, 5, .inl (fun _ => 0)))] 84 11441
  refine mp_callV hF (As := []) (rest := [.int (-2)]) (wr := []) (aX10_undo_90 E q2 (mm 6) (mm 1) (mm 2) (mm 3) (mm 4) (mm 5) (mm 7) (mm 8) (mm 9) (mm 10) (mm 11) (mm 12) (mm 13) (mm 14) (mm 15) (mm 16) (mm 17) (mm 18) (mm 19) (mm 20) (mm 21) (mm 22) (mm 23) (mm 24) (mm 25)) mp_lkL_113 0 rfl [0, 1] [] rfl rfl rfl rfl rfl ⟨(Nat.le_of_ble_eq_true rfl), (Nat.le_of_ble_eq_true rfl), (Nat.le_of_ble_eq_true rfl), (Nat.le_of_ble_eq_true rfl)⟩ (Nat.le_of_ble_eq_true rfl) (by decide +kernel) (fun v4 w5 h6 => ?_)
  obtain ⟨rfl, rfl⟩ := h6
  show mp_W E X 4 955 [(3, .int 0), (2, .ref q2), (1, .ref q1), (0, .ref b)] [.int (-2), .int (-2)] [] 84 11441
  refine mp_run hF mp_tabL_ok [mp_h (.if_icmp .eq 1264) [2219]] (by decide +kernel) ?_
  refine And.intro (fun _ => ?_) (fun c7 => absurd c7 (by decide))
  show mp_W E X 4 2219 [(3, .int 0), (2, .ref q2), (1, .ref q1), (0, .ref b)] [] [] 84 11441
  exact mp_sub [3, 0] rfl [] rfl rfl (mp_lw_next hL (Nat.le_of_ble_eq_true rfl) (Nat.le_of_ble_eq_true rfl))

set_option maxHeartbeats 4000000 in
set_option maxRecDepth 100000 in
theorem mp_case_24 {E : mp_E} {X : mp_X} {b : Nat} {xs : Nat → Int32} (hL : mp_Lw E X b 6 xs) (q1 q2 : Nat) (bb mm : Nat → Nat) (vs ln wd : Nat → Int32) (hln : ∀ j, j < 4 → ln j = -1) (hwd : ∀ j, j < 4 → wd j = -1) : mp_W E X 4 960 [(3, .int 0), (2, .ref q2), (1, .ref q1), (0, .ref b)] [] (mp_w0 E q1 q2 bb mm vs ln wd) 84 11441 := by
  have hF : mp_F E X (RL, code, 4, (2048, 600000, 7302250, 84000), ret, false) := hL.1
  show mp_W E X 4 960 [(3, .int 0), (2, .ref q2), (1, .ref q1), (0, .ref b)] [] (mp_w0 E q1 q2 bb mm vs ln wd) 84 11441
  refine mp_run hF mp_tabL_ok [mp_i (.aload_n 1)] (by decide +kernel) ?_
  show mp_W E X 4 961 [(3, .int 0), (2, .ref q2), (1, .ref q1), (0, .ref b)] [.ref q1] (mp_w0 E q1 q2 bb mm vs ln wd) 84 11441
  refine mp_callV hF (As := []) (rest := []) (wr := [(q2, .inr (10, [.int 0, .ref (mm 1), .ref (mm 2), .ref (mm 3), .ref (mm 4), .ref (mm 5), .int 0, .int 0, .int 0, .int 0, .int 0, .long 0, .int 0, .int 0, .int 0, .int (-1), .ref (mm 6), .ref (mm 7), .ref (mm 8), .ref (mm 9), .ref (mm 10), .ref (mm 11), .ref (mm 12), .ref (mm 13), .int 0, .ref (mm 14), .ref (mm 15), .ref (mm 16), .ref (mm 17), .int 0, .int 0, .int 0, .ref (mm 18), .ref (mm 19), .int 0, .int 0, .ref (mm 20), .ref (mm 21), .ref (mm 22), .int 0, .int 0, .int 0, .int 0, .ref (mm 23), .ref (mm 24), .ref (mm 25), .int 0])), ((mm 6), .inl (E.2.2 0, 5, .inl (fun _ => 0)))]) (aX9_anew_91 E q1 (bb 16) (bb 17) (bb 1) (bb 36) (bb 37) (bb 40) (bb 46) (bb 49) (bb 52) (bb 54) (bb 30) (bb 31) (bb 32) (bb 33) (bb 34) (bb 35) (bb 18) (bb 19) (bb 20) (bb 21) (bb 22) (bb 23) (bb 24) (bb 25) (bb 26) (bb 27) (bb 28) (bb 29)) mp_lkL_114 0 rfl [0, 16, 17] [58, 64] rfl rfl rfl rfl rfl ⟨(Nat.le_of_ble_eq_true rfl), (Nat.le_of_ble_eq_true rfl), (Nat.le_of_ble_eq_true rfl), (Nat.le_of_ble_eq_true rfl)⟩ (Nat.le_of_ble_eq_true rfl) (by decide +kernel) (fun v1 w2 h3 => ?_)
  obtain ⟨rfl, rfl⟩ := h3
  show mp_W E X 4 964 [(3, .int 0), (2, .ref q2), (1, .ref q1), (0, .ref b)] [.int (-2)] [(q2, .inr (10, [.int 0, .ref (mm 1), .ref (mm 2), .ref (mm 3), .ref (mm 4), .ref (mm 5), .int 0, .int 0, .int 0, .int 0, .int 0, .long 0, .int 0, .int 0, .int 0, .int (-1), .ref (mm 6), .ref (mm 7), .ref (mm 8), .ref (mm 9), .ref (mm 10), .ref (mm 11), .ref (mm 12), .ref (mm 13), .int 0, .ref (mm 14), .ref (mm 15), .ref (mm 16), .ref (mm 17), .int 0, .int 0, .int 0, .ref (mm 18), .ref (mm 19), .int 0, .int 0, .ref (mm 20), .ref (mm 21), .ref (mm 22), .int 0, .int 0, .int 0, .int 0, .ref (mm 23), .ref (mm 24), .ref (mm 25), .int 0])), ((mm 6), .inl (E.2.2 0, 5, .inl (fun _ => 0)))] 84 11441
  refine mp_run hF mp_tabL_ok [mp_i (.aload_n 2)] (by decide +kernel) ?_
  show mp_W E X 4 965 [(3, .int 0), (2, .ref q2), (1, .ref q1), (0, .ref b)] [.ref q2, .int (-2)] [(q2, .inr (10, [.int 0, .ref (mm 1), .ref (mm 2), .ref (mm 3), .ref (mm 4), .ref (mm 5), .int 0, .int 0, .int 0, .int 0, .int 0, .long 0, .int 0, .int 0, .int 0, .int (-1), .ref (mm 6), .ref (mm 7), .ref (mm 8), .ref (mm 9), .ref (mm 10), .ref (mm 11), .ref (mm 12), .ref (mm 13), .int 0, .ref (mm 14), .ref (mm 15), .ref (mm 16), .ref (mm 17), .int 0, .int 0, .int 0, .ref (mm 18), .ref (mm 19), .int 0, .int 0, .ref (mm 20), .ref (mm 21), .ref (mm 22), .int 0, .int 0, .int 0, .int 0, .ref (mm 23), .ref (mm 24), .ref (mm 25), .int 0])), ((mm 6), .inl (E.2.2 0, 5, .inl (fun _ => 0)))] 84 11441
  refine mp_callV hF (As := []) (rest := [.int (-2)]) (wr := []) (aX10_anew_92 E q2 (mm 6) (mm 1) (mm 2) (mm 3) (mm 4) (mm 5) (mm 7) (mm 8) (mm 9) (mm 10) (mm 11) (mm 12) (mm 13) (mm 14) (mm 15) (mm 16) (mm 17) (mm 18) (mm 19) (mm 20) (mm 21) (mm 22) (mm 23) (mm 24) (mm 25)) mp_lkL_117 0 rfl [0, 1] [] rfl rfl rfl rfl rfl ⟨(Nat.le_of_ble_eq_true rfl), (Nat.le_of_ble_eq_true rfl), (Nat.le_of_ble_eq_true rfl), (Nat.le_of_ble_eq_true rfl)⟩ (Nat.le_of_ble_eq_true rfl) (by decide +kernel) (fun v4 w5 h6 => ?_)
  obtain ⟨rfl, rfl⟩ := h6
  show mp_W E X 4 968 [(3, .int 0), (2, .ref q2), (1, .ref q1), (0, .ref b)] [.int (-2), .int (-2)] [] 84 11441
  refine mp_run hF mp_tabL_ok [mp_h (.if_icmp .eq 1251) [2219]] (by decide +kernel) ?_
  refine And.intro (fun _ => ?_) (fun c7 => absurd c7 (by decide))
  show mp_W E X 4 2219 [(3, .int 0), (2, .ref q2), (1, .ref q1), (0, .ref b)] [] [] 84 11441
  exact mp_sub [3, 0] rfl [] rfl rfl (mp_lw_next hL (Nat.le_of_ble_eq_true rfl) (Nat.le_of_ble_eq_true rfl))

set_option maxHeartbeats 4000000 in
set_option maxRecDepth 100000 in
theorem mp_case_25 {E : mp_E} {X : mp_X} {b : Nat} {xs : Nat → Int32} (hL : mp_Lw E X b 6 xs) (q1 q2 : Nat) (bb mm : Nat → Nat) (vs ln wd : Nat → Int32) (hln : ∀ j, j < 4 → ln j = -1) (hwd : ∀ j, j < 4 → wd j = -1) : mp_W E X 4 973 [(3, .int 0), (2, .ref q2), (1, .ref q1), (0, .ref b)] [] (mp_w0 E q1 q2 bb mm vs ln wd) 84 11441 := by
  have hF : mp_F E X (RL, code, 4, (2048, 600000, 7302250, 84000), ret, false) := hL.1
  show mp_W E X 4 973 [(3, .int 0), (2, .ref q2), (1, .ref q1), (0, .ref b)] [] (mp_w0 E q1 q2 bb mm vs ln wd) 84 11441
  refine mp_run hF mp_tabL_ok [mp_i (.aload_n 1), mp_i (.aload_n 0), mp_i (.iload_n 3), mp_c (.iconst 1) 1, mp_i .iadd] (by decide +kernel) ?_
  intro z1 h2
  obtain rfl : z1 = 1 := h2.trans (by decide)
  show mp_W E X 4 978 [(3, .int 0), (2, .ref q2), (1, .ref q1), (0, .ref b)] [.int 1, .ref b, .ref q1] (mp_w0 E q1 q2 bb mm vs ln wd) 84 11441
  refine mp_lsld hL 1 (by decide) (by decide) (by decide) (by decide +kernel) ?_
  show mp_W E X 4 979 [(3, .int 0), (2, .ref q2), (1, .ref q1), (0, .ref b)] [.int (xs 1), .ref q1] (mp_w0 E q1 q2 bb mm vs ln wd) 84 11441
  refine mp_callV hF (As := [.int (xs 1)]) (rest := []) (wr := [(q2, .inr (10, [.int 0, .ref (mm 1), .ref (mm 2), .ref (mm 3), .ref (mm 4), .ref (mm 5), .int 0, .int 0, .int 0, .int 0, .int 0, .long 0, .int 0, .int 0, .int 0, .int (-1), .ref (mm 6), .ref (mm 7), .ref (mm 8), .ref (mm 9), .ref (mm 10), .ref (mm 11), .ref (mm 12), .ref (mm 13), .int 0, .ref (mm 14), .ref (mm 15), .ref (mm 16), .ref (mm 17), .int 0, .int 0, .int 0, .ref (mm 18), .ref (mm 19), .int 0, .int 0, .ref (mm 20), .ref (mm 21), .ref (mm 22), .int 0, .int 0, .int 0, .int 0, .ref (mm 23), .ref (mm 24), .ref (mm 25), .int 0])), ((mm 6), .inl (E.2.2 0, 5, .inl (fun _ => 0)))]) (aX9_act_93 E q1 (bb 16) (bb 17) (bb 1) (bb 36) (bb 37) (bb 40) (bb 46) (bb 49) (bb 52) (bb 54) (bb 30) (bb 31) (bb 32) (bb 33) (bb 34) (bb 35) (bb 18) (bb 19) (bb 20) (bb 21) (bb 22) (bb 23) (bb 24) (bb 25) (bb 26) (bb 27) (bb 28) (bb 29) (xs 1)) mp_lkL_118 0 rfl [0, 16, 17] [58, 64] rfl rfl rfl rfl rfl ⟨(Nat.le_of_ble_eq_true rfl), (Nat.le_of_ble_eq_true rfl), (Nat.le_of_ble_eq_true rfl), (Nat.le_of_ble_eq_true rfl)⟩ (Nat.le_of_ble_eq_true rfl) (by decide +kernel) (fun v3 w4 h5 => ?_)
  obtain ⟨rfl, rfl⟩ := h5
  show mp_W E X 4 982 [(3, .int 0), (2, .ref q2), (1, .ref q1), (0, .ref b)] [.int (-2)] [(q2, .inr (10, [.int 0, .ref (mm 1), .ref (mm 2), .ref (mm 3), .ref (mm 4), .ref (mm 5), .int 0, .int 0, .int 0, .int 0, .int 0, .long 0, .int 0, .int 0, .int 0, .int (-1), .ref (mm 6), .ref (mm 7), .ref (mm 8), .ref (mm 9), .ref (mm 10), .ref (mm 11), .ref (mm 12), .ref (mm 13), .int 0, .ref (mm 14), .ref (mm 15), .ref (mm 16), .ref (mm 17), .int 0, .int 0, .int 0, .ref (mm 18), .ref (mm 19), .int 0, .int 0, .ref (mm 20), .ref (mm 21), .ref (mm 22), .int 0, .int 0, .int 0, .int 0, .ref (mm 23), .ref (mm 24), .ref (mm 25), .int 0])), ((mm 6), .inl (E.2.2 0, 5, .inl (fun _ => 0)))] 84 11441
  refine mp_run hF mp_tabL_ok [mp_i (.aload_n 2), mp_i (.aload_n 0), mp_i (.iload_n 3), mp_c (.iconst 1) 1, mp_i .iadd] (by decide +kernel) ?_
  intro z6 h7
  obtain rfl : z6 = 1 := h7.trans (by decide)
  show mp_W E X 4 987 [(3, .int 0), (2, .ref q2), (1, .ref q1), (0, .ref b)] [.int 1, .ref b, .ref q2, .int (-2)] [(q2, .inr (10, [.int 0, .ref (mm 1), .ref (mm 2), .ref (mm 3), .ref (mm 4), .ref (mm 5), .int 0, .int 0, .int 0, .int 0, .int 0, .long 0, .int 0, .int 0, .int 0, .int (-1), .ref (mm 6), .ref (mm 7), .ref (mm 8), .ref (mm 9), .ref (mm 10), .ref (mm 11), .ref (mm 12), .ref (mm 13), .int 0, .ref (mm 14), .ref (mm 15), .ref (mm 16), .ref (mm 17), .int 0, .int 0, .int 0, .ref (mm 18), .ref (mm 19), .int 0, .int 0, .ref (mm 20), .ref (mm 21), .ref (mm 22), .int 0, .int 0, .int 0, .int 0, .ref (mm 23), .ref (mm 24), .ref (mm 25), .int 0])), ((mm 6), .inl (E.2.2 0, 5, .inl (fun _ => 0)))] 84 11441
  refine mp_lsld hL 1 (by decide) (by decide) (by decide) (by decide +kernel) ?_
  show mp_W E X 4 988 [(3, .int 0), (2, .ref q2), (1, .ref q1), (0, .ref b)] [.int (xs 1), .ref q2, .int (-2)] [(q2, .inr (10, [.int 0, .ref (mm 1), .ref (mm 2), .ref (mm 3), .ref (mm 4), .ref (mm 5), .int 0, .int 0, .int 0, .int 0, .int 0, .long 0, .int 0, .int 0, .int 0, .int (-1), .ref (mm 6), .ref (mm 7), .ref (mm 8), .ref (mm 9), .ref (mm 10), .ref (mm 11), .ref (mm 12), .ref (mm 13), .int 0, .ref (mm 14), .ref (mm 15), .ref (mm 16), .ref (mm 17), .int 0, .int 0, .int 0, .ref (mm 18), .ref (mm 19), .int 0, .int 0, .ref (mm 20), .ref (mm 21), .ref (mm 22), .int 0, .int 0, .int 0, .int 0, .ref (mm 23), .ref (mm 24), .ref (mm 25), .int 0])), ((mm 6), .inl (E.2.2 0, 5, .inl (fun _ => 0)))] 84 11441
  refine mp_callV hF (As := [.int (xs 1)]) (rest := [.int (-2)]) (wr := []) (aX10_act_94 E q2 (mm 6) (mm 1) (mm 2) (mm 3) (mm 4) (mm 5) (mm 7) (mm 8) (mm 9) (mm 10) (mm 11) (mm 12) (mm 13) (mm 14) (mm 15) (mm 16) (mm 17) (mm 18) (mm 19) (mm 20) (mm 21) (mm 22) (mm 23) (mm 24) (mm 25) (xs 1)) mp_lkL_121 0 rfl [0, 1] [] rfl rfl rfl rfl rfl ⟨(Nat.le_of_ble_eq_true rfl), (Nat.le_of_ble_eq_true rfl), (Nat.le_of_ble_eq_true rfl), (Nat.le_of_ble_eq_true rfl)⟩ (Nat.le_of_ble_eq_true rfl) (by decide +kernel) (fun v8 w9 h10 => ?_)
  obtain ⟨rfl, rfl⟩ := h10
  show mp_W E X 4 991 [(3, .int 0), (2, .ref q2), (1, .ref q1), (0, .ref b)] [.int (-2), .int (-2)] [] 84 11441
  refine mp_run hF mp_tabL_ok [mp_h (.if_icmp .eq 1228) [2219]] (by decide +kernel) ?_
  refine And.intro (fun _ => ?_) (fun c11 => absurd c11 (by decide))
  show mp_W E X 4 2219 [(3, .int 0), (2, .ref q2), (1, .ref q1), (0, .ref b)] [] [] 84 11441
  exact mp_sub [3, 0] rfl [] rfl rfl (mp_lw_next hL (Nat.le_of_ble_eq_true rfl) (Nat.le_of_ble_eq_true rfl))

set_option maxHeartbeats 4000000 in
set_option maxRecDepth 100000 in
theorem mp_case_26 {E : mp_E} {X : mp_X} {b : Nat} {xs : Nat → Int32} (hL : mp_Lw E X b 6 xs) (q1 q2 : Nat) (bb mm : Nat → Nat) (vs ln wd : Nat → Int32) (hln : ∀ j, j < 4 → ln j = -1) (hwd : ∀ j, j < 4 → wd j = -1) : mp_W E X 4 996 [(3, .int 0), (2, .ref q2), (1, .ref q1), (0, .ref b)] [] (mp_w0 E q1 q2 bb mm vs ln wd) 84 11441 := by
  have hF : mp_F E X (RL, code, 4, (2048, 600000, 7302250, 84000), ret, false) := hL.1
  show mp_W E X 4 996 [(3, .int 0), (2, .ref q2), (1, .ref q1), (0, .ref b)] [] (mp_w0 E q1 q2 bb mm vs ln wd) 84 11441
  refine mp_run hF mp_tabL_ok [mp_i (.aload_n 1)] (by decide +kernel) ?_
  show mp_W E X 4 997 [(3, .int 0), (2, .ref q2), (1, .ref q1), (0, .ref b)] [.ref q1] (mp_w0 E q1 q2 bb mm vs ln wd) 84 11441
  refine mp_callV hF (As := []) (rest := []) (wr := [(q2, .inr (10, [.int 0, .ref (mm 1), .ref (mm 2), .ref (mm 3), .ref (mm 4), .ref (mm 5), .int 0, .int 0, .int 0, .int 0, .int 0, .long 0, .int 0, .int 0, .int 0, .int (-1), .ref (mm 6), .ref (mm 7), .ref (mm 8), .ref (mm 9), .ref (mm 10), .ref (mm 11), .ref (mm 12), .ref (mm 13), .int 0, .ref (mm 14), .ref (mm 15), .ref (mm 16), .ref (mm 17), .int 0, .int 0, .int 0, .ref (mm 18), .ref (mm 19), .int 0, .int 0, .ref (mm 20), .ref (mm 21), .ref (mm 22), .int 0, .int 0, .int 0, .int 0, .ref (mm 23), .ref (mm 24), .ref (mm 25), .int 0])), ((mm 6), .inl (E.2.2 0, 5, .inl (fun _ => 0)))]) (aX9_can_95 E q1 (bb 16) (bb 17) (bb 1) (bb 36) (bb 37) (bb 40) (bb 46) (bb 49) (bb 52) (bb 54) (bb 30) (bb 31) (bb 32) (bb 33) (bb 34) (bb 35) (bb 18) (bb 19) (bb 20) (bb 21) (bb 22) (bb 23) (bb 24) (bb 25) (bb 26) (bb 27) (bb 28) (bb 29)) mp_lkL_122 0 rfl [0, 16, 17] [58, 64] rfl rfl rfl rfl rfl ⟨(Nat.le_of_ble_eq_true rfl), (Nat.le_of_ble_eq_true rfl), (Nat.le_of_ble_eq_true rfl), (Nat.le_of_ble_eq_true rfl)⟩ (Nat.le_of_ble_eq_true rfl) (by decide +kernel) (fun v1 w2 h3 => ?_)
  obtain ⟨rfl, rfl⟩ := h3
  show mp_W E X 4 1000 [(3, .int 0), (2, .ref q2), (1, .ref q1), (0, .ref b)] [.int (-2)] [(q2, .inr (10, [.int 0, .ref (mm 1), .ref (mm 2), .ref (mm 3), .ref (mm 4), .ref (mm 5), .int 0, .int 0, .int 0, .int 0, .int 0, .long 0, .int 0, .int 0, .int 0, .int (-1), .ref (mm 6), .ref (mm 7), .ref (mm 8), .ref (mm 9), .ref (mm 10), .ref (mm 11), .ref (mm 12), .ref (mm 13), .int 0, .ref (mm 14), .ref (mm 15), .ref (mm 16), .ref (mm 17), .int 0, .int 0, .int 0, .ref (mm 18), .ref (mm 19), .int 0, .int 0, .ref (mm 20), .ref (mm 21), .ref (mm 22), .int 0, .int 0, .int 0, .int 0, .ref (mm 23), .ref (mm 24), .ref (mm 25), .int 0])), ((mm 6), .inl (E.2.2 0, 5, .inl (fun _ => 0)))] 84 11441
  refine mp_run hF mp_tabL_ok [mp_i (.aload_n 2)] (by decide +kernel) ?_
  show mp_W E X 4 1001 [(3, .int 0), (2, .ref q2), (1, .ref q1), (0, .ref b)] [.ref q2, .int (-2)] [(q2, .inr (10, [.int 0, .ref (mm 1), .ref (mm 2), .ref (mm 3), .ref (mm 4), .ref (mm 5), .int 0, .int 0, .int 0, .int 0, .int 0, .long 0, .int 0, .int 0, .int 0, .int (-1), .ref (mm 6), .ref (mm 7), .ref (mm 8), .ref (mm 9), .ref (mm 10), .ref (mm 11), .ref (mm 12), .ref (mm 13), .int 0, .ref (mm 14), .ref (mm 15), .ref (mm 16), .ref (mm 17), .int 0, .int 0, .int 0, .ref (mm 18), .ref (mm 19), .int 0, .int 0, .ref (mm 20), .ref (mm 21), .ref (mm 22), .int 0, .int 0, .int 0, .int 0, .ref (mm 23), .ref (mm 24), .ref (mm 25), .int 0])), ((mm 6), .inl (E.2.2 0, 5, .inl (fun _ => 0)))] 84 11441
  refine mp_callV hF (As := []) (rest := [.int (-2)]) (wr := []) (aX10_can_96 E q2 (mm 6) (mm 1) (mm 2) (mm 3) (mm 4) (mm 5) (mm 7) (mm 8) (mm 9) (mm 10) (mm 11) (mm 12) (mm 13) (mm 14) (mm 15) (mm 16) (mm 17) (mm 18) (mm 19) (mm 20) (mm 21) (mm 22) (mm 23) (mm 24) (mm 25)) mp_lkL_125 0 rfl [0, 1] [] rfl rfl rfl rfl rfl ⟨(Nat.le_of_ble_eq_true rfl), (Nat.le_of_ble_eq_true rfl), (Nat.le_of_ble_eq_true rfl), (Nat.le_of_ble_eq_true rfl)⟩ (Nat.le_of_ble_eq_true rfl) (by decide +kernel) (fun v4 w5 h6 => ?_)
  obtain ⟨rfl, rfl⟩ := h6
  show mp_W E X 4 1004 [(3, .int 0), (2, .ref q2), (1, .ref q1), (0, .ref b)] [.int (-2), .int (-2)] [] 84 11441
  refine mp_run hF mp_tabL_ok [mp_h (.if_icmp .eq 1215) [2219]] (by decide +kernel) ?_
  refine And.intro (fun _ => ?_) (fun c7 => absurd c7 (by decide))
  show mp_W E X 4 2219 [(3, .int 0), (2, .ref q2), (1, .ref q1), (0, .ref b)] [] [] 84 11441
  exact mp_sub [3, 0] rfl [] rfl rfl (mp_lw_next hL (Nat.le_of_ble_eq_true rfl) (Nat.le_of_ble_eq_true rfl))

