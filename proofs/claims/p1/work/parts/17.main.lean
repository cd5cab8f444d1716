set_option maxHeartbeats 4000000 in
set_option maxRecDepth 100000 in
theorem mp_main {E : mp_E} {X : mp_X} {b L : Nat} {xs : Nat → Int32} (hL : mp_Lw E X b L xs) (h6 : L ≤ 6) : mp_W E X 4 0 [(0, .ref b)] [] [] 0 0 := by
  have hF : mp_F E X (RL, code, 4, (2048, 600000, 7302250, 84000), ret, false) := hL.1
  show mp_W E X 4 0 [(0, .ref b)] [] [] 0 0
  refine mp_new hF (mp_lnL_7) ⟨(Nat.le_of_ble_eq_true rfl), (Nat.le_of_ble_eq_true rfl)⟩ (by decide +kernel) (fun q1 => ?_)
  show mp_W E X 4 3 [(0, .ref b)] [.ref q1] [(q1, .inr (9, [.null, .null, .null, .null, .null, .null, .null, .null, .null]))] 1 9
  refine mp_run hF mp_tabL_ok [mp_i .dup] (by decide +kernel) ?_
  refine And.intro rfl ?_
  show mp_W E X 4 4 [(0, .ref b)] [.ref q1, .ref q1] [(q1, .inr (9, [.null, .null, .null, .null, .null, .null, .null, .null, .null]))] 1 9
  refine mp_callI hF (As := []) (rest := [.ref q1]) (wr := []) (k_Main E q1) mp_lkL_9 [0] [] rfl rfl rfl rfl rfl ⟨(Nat.le_of_ble_eq_true rfl), (Nat.le_of_ble_eq_true rfl), (Nat.le_of_ble_eq_true rfl), (Nat.le_of_ble_eq_true rfl)⟩ (Nat.le_of_ble_eq_true rfl) (by decide +kernel) (fun v2 w3 h4 => ?_)
  obtain ⟨rfl, bb, vs, ln, hb1, hln, rfl⟩ := h4
  show mp_W E X 4 7 [(0, .ref b)] [.ref q1] [(q1, .inr (9, [.ref (bb 1), .ref (bb 16), .ref (bb 36), .ref (bb 37), .ref (bb 40), .ref (bb 46), .ref (bb 49), .ref (bb 52), .ref (bb 54)])), ((bb 1), .inr (3, [.ref (bb 2), .int 0, .ref (bb 3), .int 0, .int (-1), .int 0, .int 0, .int 0, .int 0, .int 0])), ((bb 2), .inl (E.2.2 1, 1600, .inl (fun _ => 0))), ((bb 3), .inr (7, [.int 0, .int 0, .int 0, .int 0, .int 0, .int 0, .ref (bb 4), .ref (bb 5), .ref (bb 6), .ref (bb 7), .ref (bb 8), .ref (bb 9), .ref (bb 10), .ref (bb 11), .ref (bb 12), .ref (bb 13), .ref (bb 14), .ref (bb 15)])), ((bb 4), .inl (E.2.2 0, 36, .inl (fun _ => 0))), ((bb 5), .inl (E.2.2 2, 12, .inr (.inl (fun _ => 0)))), ((bb 6), .inl (E.2.2 0, 6, .inl (fun _ => 0))), ((bb 7), .inl (E.2.2 0, 6, .inl (fun _ => 0))), ((bb 8), .inl (E.2.2 0, 6, .inl (fun _ => 0))), ((bb 9), .inl (E.2.2 0, 10, .inl (fun _ => 0))), ((bb 10), .inl (E.2.2 0, 10, .inl (fun _ => 0))), ((bb 11), .inl (E.2.2 0, 10, .inl (fun _ => 0))), ((bb 12), .inl (E.2.2 0, 10, .inl (fun _ => 0))), ((bb 13), .inl (E.2.2 0, 10, .inl (fun _ => 0))), ((bb 14), .inl (E.2.2 0, 10, .inl (fun _ => 0))), ((bb 15), .inl (E.2.2 0, 60, .inl (fun _ => 0))), ((bb 16), .inr (0, [.ref (bb 17), .int 0, .ref (bb 30), .ref (bb 31), .ref (bb 32), .ref (bb 33), .ref (bb 34), .ref (bb 35)])), ((bb 17), .inr (7, [.int 0, .int 0, .int 0, .int 0, .int 0, .int 0, .ref (bb 18), .ref (bb 19), .ref (bb 20), .ref (bb 21), .ref (bb 22), .ref (bb 23), .ref (bb 24), .ref (bb 25), .ref (bb 26), .ref (bb 27), .ref (bb 28), .ref (bb 29)])), ((bb 18), .inl (E.2.2 0, 36, .inl (fun _ => 0))), ((bb 19), .inl (E.2.2 2, 12, .inr (.inl (fun _ => 0)))), ((bb 20), .inl (E.2.2 0, 6, .inl (fun _ => 0))), ((bb 21), .inl (E.2.2 0, 6, .inl (fun _ => 0))), ((bb 22), .inl (E.2.2 0, 6, .inl (fun _ => 0))), ((bb 23), .inl (E.2.2 0, 10, .inl (fun _ => 0))), ((bb 24), .inl (E.2.2 0, 10, .inl (fun _ => 0))), ((bb 25), .inl (E.2.2 0, 10, .inl (fun _ => 0))), ((bb 26), .inl (E.2.2 0, 10, .inl (fun _ => 0))), ((bb 27), .inl (E.2.2 0, 10, .inl (fun _ => 0))), ((bb 28), .inl (E.2.2 0, 10, .inl (fun _ => 0))), ((bb 29), .inl (E.2.2 0, 60, .inl (fun _ => 0))), ((bb 30), .inl (E.2.2 0, 6, .inl (fun _ => 0))), ((bb 31), .inl (E.2.2 0, 6, .inl (fun _ => 0))), ((bb 32), .inl (E.2.2 0, 6, .inl (fun _ => 0))), ((bb 33), .inl (E.2.2 2, 20, .inr (.inl (fun _ => 0)))), ((bb 34), .inl (E.2.2 0, 10, .inl (fun _ => 0))), ((bb 35), .inl (E.2.2 0, 10, .inl (fun _ => 0))), ((bb 36), .inl (E.2.2 4, 3, .inr (.inr (.inr (.inr (fun _ => none)))))), ((bb 37), .inr (1, [.ref (bb 38), .int 0, .int 0, .ref (bb 39)])), ((bb 38), .inl (E.2.2 0, 36, .inl (fun _ => 0))), ((bb 39), .inl (E.2.2 0, 3, .inl (fun _ => 0))), ((bb 40), .inr (2, [.int 0, .int 0, .int 0, .int 0, .ref (bb 41), .ref (bb 42), .ref (bb 43), .ref (bb 44), .ref (bb 45), .int 0, .int 0])), ((bb 41), .inl (E.2.2 0, 432, .inl (fun _ => 0))), ((bb 42), .inl (E.2.2 0, 432, .inl (fun _ => 0))), ((bb 43), .inl (E.2.2 0, 72, .inl (fun _ => 0))), ((bb 44), .inl (E.2.2 0, 78, .inl (fun _ => 0))), ((bb 45), .inl (E.2.2 2, 78, .inr (.inl (fun _ => 0)))), ((bb 46), .inr (4, [.int 0, .int 0, .int 0, .ref (bb 47), .int 0, .int 0, .int 0, .int 0, .int 0, .ref (bb 48)])), ((bb 47), .inl (E.2.2 0, 11, .inl (fun _ => 0))), ((bb 48), .inl (E.2.2 0, 132, .inl (fun _ => 0))), ((bb 49), .inr (6, [.int 0, .ref (bb 50), .ref (bb 51)])), ((bb 50), .inl (E.2.2 0, 8, .inl (fun _ => 0))), ((bb 51), .inl (E.2.2 0, 100, .inl vs)), ((bb 52), .inr (8, [.ref (bb 53), .int 0, .int 0])), ((bb 53), .inl (E.2.2 0, 10, .inl (fun _ => 0))), ((bb 54), .inr (5, [.ref (bb 55), .ref (bb 56), .ref (bb 57)])), ((bb 55), .inl (E.2.2 2, 240, .inr (.inl (fun _ => 0)))), ((bb 56), .inl (E.2.2 0, 4, .inl (fun _ => 0))), ((bb 57), .inl (E.2.2 0, 4, .inl ln))] 58 3770
  refine mp_run hF mp_tabL_ok [mp_i (.astore_n 1)] (by decide +kernel) ?_
  show mp_W E X 4 8 [(1, .ref q1), (0, .ref b)] [] [(q1, .inr (9, [.ref (bb 1), .ref (bb 16), .ref (bb 36), .ref (bb 37), .ref (bb 40), .ref (bb 46), .ref (bb 49), .ref (bb 52), .ref (bb 54)])), ((bb 1), .inr (3, [.ref (bb 2), .int 0, .ref (bb 3), .int 0, .int (-1), .int 0, .int 0, .int 0, .int 0, .int 0])), ((bb 2), .inl (E.2.2 1, 1600, .inl (fun _ => 0))), ((bb 3), .inr (7, [.int 0, .int 0, .int 0, .int 0, .int 0, .int 0, .ref (bb 4), .ref (bb 5), .ref (bb 6), .ref (bb 7), .ref (bb 8), .ref (bb 9), .ref (bb 10), .ref (bb 11), .ref (bb 12), .ref (bb 13), .ref (bb 14), .ref (bb 15)])), ((bb 4), .inl (E.2.2 0, 36, .inl (fun _ => 0))), ((bb 5), .inl (E.2.2 2, 12, .inr (.inl (fun _ => 0)))), ((bb 6), .inl (E.2.2 0, 6, .inl (fun _ => 0))), ((bb 7), .inl (E.2.2 0, 6, .inl (fun _ => 0))), ((bb 8), .inl (E.2.2 0, 6, .inl (fun _ => 0))), ((bb 9), .inl (E.2.2 0, 10, .inl (fun _ => 0))), ((bb 10), .inl (E.2.2 0, 10, .inl (fun _ => 0))), ((bb 11), .inl (E.2.2 0, 10, .inl (fun _ => 0))), ((bb 12), .inl (E.2.2 0, 10, .inl (fun _ => 0))), ((bb 13), .inl (E.2.2 0, 10, .inl (fun _ => 0))), ((bb 14), .inl (E.2.2 0, 10, .inl (fun _ => 0))), ((bb 15), .inl (E.2.2 0, 60, .inl (fun _ => 0))), ((bb 16), .inr (0, [.ref (bb 17), .int 0, .ref (bb 30), .ref (bb 31), .ref (bb 32), .ref (bb 33), .ref (bb 34), .ref (bb 35)])), ((bb 17), .inr (7, [.int 0, .int 0, .int 0, .int 0, .int 0, .int 0, .ref (bb 18), .ref (bb 19), .ref (bb 20), .ref (bb 21), .ref (bb 22), .ref (bb 23), .ref (bb 24), .ref (bb 25), .ref (bb 26), .ref (bb 27), .ref (bb 28), .ref (bb 29)])), ((bb 18), .inl (E.2.2 0, 36, .inl (fun _ => 0))), ((bb 19), .inl (E.2.2 2, 12, .inr (.inl (fun _ => 0)))), ((bb 20), .inl (E.2.2 0, 6, .inl (fun _ => 0))), ((bb 21), .inl (E.2.2 0, 6, .inl (fun _ => 0))), ((bb 22), .inl (E.2.2 0, 6, .inl (fun _ => 0))), ((bb 23), .inl (E.2.2 0, 10, .inl (fun _ => 0))), ((bb 24), .inl (E.2.2 0, 10, .inl (fun _ => 0))), ((bb 25), .inl (E.2.2 0, 10, .inl (fun _ => 0))), ((bb 26), .inl (E.2.2 0, 10, .inl (fun _ => 0))), ((bb 27), .inl (E.2.2 0, 10, .inl (fun _ => 0))), ((bb 28), .inl (E.2.2 0, 10, .inl (fun _ => 0))), ((bb 29), .inl (E.2.2 0, 60, .inl (fun _ => 0))), ((bb 30), .inl (E.2.2 0, 6, .inl (fun _ => 0))), ((bb 31), .inl (E.2.2 0, 6, .inl (fun _ => 0))), ((bb 32), .inl (E.2.2 0, 6, .inl (fun _ => 0))), ((bb 33), .inl (E.2.2 2, 20, .inr (.inl (fun _ => 0)))), ((bb 34), .inl (E.2.2 0, 10, .inl (fun _ => 0))), ((bb 35), .inl (E.2.2 0, 10, .inl (fun _ => 0))), ((bb 36), .inl (E.2.2 4, 3, .inr (.inr (.inr (.inr (fun _ => none)))))), ((bb 37), .inr (1, [.ref (bb 38), .int 0, .int 0, .ref (bb 39)])), ((bb 38), .inl (E.2.2 0, 36, .inl (fun _ => 0))), ((bb 39), .inl (E.2.2 0, 3, .inl (fun _ => 0))), ((bb 40), .inr (2, [.int 0, .int 0, .int 0, .int 0, .ref (bb 41), .ref (bb 42), .ref (bb 43), .ref (bb 44), .ref (bb 45), .int 0, .int 0])), ((bb 41), .inl (E.2.2 0, 432, .inl (fun _ => 0))), ((bb 42), .inl (E.2.2 0, 432, .inl (fun _ => 0))), ((bb 43), .inl (E.2.2 0, 72, .inl (fun _ => 0))), ((bb 44), .inl (E.2.2 0, 78, .inl (fun _ => 0))), ((bb 45), .inl (E.2.2 2, 78, .inr (.inl (fun _ => 0)))), ((bb 46), .inr (4, [.int 0, .int 0, .int 0, .ref (bb 47), .int 0, .int 0, .int 0, .int 0, .int 0, .ref (bb 48)])), ((bb 47), .inl (E.2.2 0, 11, .inl (fun _ => 0))), ((bb 48), .inl (E.2.2 0, 132, .inl (fun _ => 0))), ((bb 49), .inr (6, [.int 0, .ref (bb 50), .ref (bb 51)])), ((bb 50), .inl (E.2.2 0, 8, .inl (fun _ => 0))), ((bb 51), .inl (E.2.2 0, 100, .inl vs)), ((bb 52), .inr (8, [.ref (bb 53), .int 0, .int 0])), ((bb 53), .inl (E.2.2 0, 10, .inl (fun _ => 0))), ((bb 54), .inr (5, [.ref (bb 55), .ref (bb 56), .ref (bb 57)])), ((bb 55), .inl (E.2.2 2, 240, .inr (.inl (fun _ => 0)))), ((bb 56), .inl (E.2.2 0, 4, .inl (fun _ => 0))), ((bb 57), .inl (E.2.2 0, 4, .inl ln))] 58 3770
  refine mp_new hF (mp_lnL_10) ⟨(Nat.le_of_ble_eq_true rfl), (Nat.le_of_ble_eq_true rfl)⟩ (by decide +kernel) (fun q5 => ?_)
  show mp_W E X 4 11 [(1, .ref q1), (0, .ref b)] [.ref q5] [(q1, .inr (9, [.ref (bb 1), .ref (bb 16), .ref (bb 36), .ref (bb 37), .ref (bb 40), .ref (bb 46), .ref (bb 49), .ref (bb 52), .ref (bb 54)])), ((bb 1), .inr (3, [.ref (bb 2), .int 0, .ref (bb 3), .int 0, .int (-1), .int 0, .int 0, .int 0, .int 0, .int 0])), ((bb 2), .inl (E.2.2 1, 1600, .inl (fun _ => 0))), ((bb 3), .inr (7, [.int 0, .int 0, .int 0, .int 0, .int 0, .int 0, .ref (bb 4), .ref (bb 5), .ref (bb 6), .ref (bb 7), .ref (bb 8), .ref (bb 9), .ref (bb 10), .ref (bb 11), .ref (bb 12), .ref (bb 13), .ref (bb 14), .ref (bb 15)])), ((bb 4), .inl (E.2.2 0, 36, .inl (fun _ => 0))), ((bb 5), .inl (E.2.2 2, 12, .inr (.inl (fun _ => 0)))), ((bb 6), .inl (E.2.2 0, 6, .inl (fun _ => 0))), ((bb 7), .inl (E.2.2 0, 6, .inl (fun _ => 0))), ((bb 8), .inl (E.2.2 0, 6, .inl (fun _ => 0))), ((bb 9), .inl (E.2.2 0, 10, .inl (fun _ => 0))), ((bb 10), .inl (E.2.2 0, 10, .inl (fun _ => 0))), ((bb 11), .inl (E.2.2 0, 10, .inl (fun _ => 0))), ((bb 12), .inl (E.2.2 0, 10, .inl (fun _ => 0))), ((bb 13), .inl (E.2.2 0, 10, .inl (fun _ => 0))), ((bb 14), .inl (E.2.2 0, 10, .inl (fun _ => 0))), ((bb 15), .inl (E.2.2 0, 60, .inl (fun _ => 0))), ((bb 16), .inr (0, [.ref (bb 17), .int 0, .ref (bb 30), .ref (bb 31), .ref (bb 32), .ref (bb 33), .ref (bb 34), .ref (bb 35)])), ((bb 17), .inr (7, [.int 0, .int 0, .int 0, .int 0, .int 0, .int 0, .ref (bb 18), .ref (bb 19), .ref (bb 20), .ref (bb 21), .ref (bb 22), .ref (bb 23), .ref (bb 24), .ref (bb 25), .ref (bb 26), .ref (bb 27), .ref (bb 28), .ref (bb 29)])), ((bb 18), .inl (E.2.2 0, 36, .inl (fun _ => 0))), ((bb 19), .inl (E.2.2 2, 12, .inr (.inl (fun _ => 0)))), ((bb 20), .inl (E.2.2 0, 6, .inl (fun _ => 0))), ((bb 21), .inl (E.2.2 0, 6, .inl (fun _ => 0))), ((bb 22), .inl (E.2.2 0, 6, .inl (fun _ => 0))), ((bb 23), .inl (E.2.2 0, 10, .inl (fun _ => 0))), ((bb 24), .inl (E.2.2 0, 10, .inl (fun _ => 0))), ((bb 25), .inl (E.2.2 0, 10, .inl (fun _ => 0))), ((bb 26), .inl (E.2.2 0, 10, .inl (fun _ => 0))), ((bb 27), .inl (E.2.2 0, 10, .inl (fun _ => 0))), ((bb 28), .inl (E.2.2 0, 10, .inl (fun _ => 0))), ((bb 29), .inl (E.2.2 0, 60, .inl (fun _ => 0))), ((bb 30), .inl (E.2.2 0, 6, .inl (fun _ => 0))), ((bb 31), .inl (E.2.2 0, 6, .inl (fun _ => 0))), ((bb 32), .inl (E.2.2 0, 6, .inl (fun _ => 0))), ((bb 33), .inl (E.2.2 2, 20, .inr (.inl (fun _ => 0)))), ((bb 34), .inl (E.2.2 0, 10, .inl (fun _ => 0))), ((bb 35), .inl (E.2.2 0, 10, .inl (fun _ => 0))), ((bb 36), .inl (E.2.2 4, 3, .inr (.inr (.inr (.inr (fun _ => none)))))), ((bb 37), .inr (1, [.ref (bb 38), .int 0, .int 0, .ref (bb 39)])), ((bb 38), .inl (E.2.2 0, 36, .inl (fun _ => 0))), ((bb 39), .inl (E.2.2 0, 3, .inl (fun _ => 0))), ((bb 40), .inr (2, [.int 0, .int 0, .int 0, .int 0, .ref (bb 41), .ref (bb 42), .ref (bb 43), .ref (bb 44), .ref (bb 45), .int 0, .int 0])), ((bb 41), .inl (E.2.2 0, 432, .inl (fun _ => 0))), ((bb 42), .inl (E.2.2 0, 432, .inl (fun _ => 0))), ((bb 43), .inl (E.2.2 0, 72, .inl (fun _ => 0))), ((bb 44), .inl (E.2.2 0, 78, .inl (fun _ => 0))), ((bb 45), .inl (E.2.2 2, 78, .inr (.inl (fun _ => 0)))), ((bb 46), .inr (4, [.int 0, .int 0, .int 0, .ref (bb 47), .int 0, .int 0, .int 0, .int 0, .int 0, .ref (bb 48)])), ((bb 47), .inl (E.2.2 0, 11, .inl (fun _ => 0))), ((bb 48), .inl (E.2.2 0, 132, .inl (fun _ => 0))), ((bb 49), .inr (6, [.int 0, .ref (bb 50), .ref (bb 51)])), ((bb 50), .inl (E.2.2 0, 8, .inl (fun _ => 0))), ((bb 51), .inl (E.2.2 0, 100, .inl vs)), ((bb 52), .inr (8, [.ref (bb 53), .int 0, .int 0])), ((bb 53), .inl (E.2.2 0, 10, .inl (fun _ => 0))), ((bb 54), .inr (5, [.ref (bb 55), .ref (bb 56), .ref (bb 57)])), ((bb 55), .inl (E.2.2 2, 240, .inr (.inl (fun _ => 0)))), ((bb 56), .inl (E.2.2 0, 4, .inl (fun _ => 0))), ((bb 57), .inl (E.2.2 0, 4, .inl ln)), (q5, .inr (10, [.int 0, .null, .null, .null, .null, .null, .int 0, .int 0, .int 0, .int 0, .int 0, .long 0, .int 0, .int 0, .int 0, .int 0, .null, .null, .null, .null, .null, .null, .null, .null, .int 0, .null, .null, .null, .null, .int 0, .int 0, .int 0, .null, .null, .int 0, .int 0, .null, .null, .null, .int 0, .int 0, .int 0, .int 0, .null, .null, .null, .int 0]))] 59 3817
  refine mp_run hF mp_tabL_ok [mp_i .dup] (by decide +kernel) ?_
  refine And.intro rfl ?_
  show mp_W E X 4 12 [(1, .ref q1), (0, .ref b)] [.ref q5, .ref q5] [(q1, .inr (9, [.ref (bb 1), .ref (bb 16), .ref (bb 36), .ref (bb 37), .ref (bb 40), .ref (bb 46), .ref (bb 49), .ref (bb 52), .ref (bb 54)])), ((bb 1), .inr (3, [.ref (bb 2), .int 0, .ref (bb 3), .int 0, .int (-1), .int 0, .int 0, .int 0, .int 0, .int 0])), ((bb 2), .inl (E.2.2 1, 1600, .inl (fun _ => 0))), ((bb 3), .inr (7, [.int 0, .int 0, .int 0, .int 0, .int 0, .int 0, .ref (bb 4), .ref (bb 5), .ref (bb 6), .ref (bb 7), .ref (bb 8), .ref (bb 9), .ref (bb 10), .ref (bb 11), .ref (bb 12), .ref (bb 13), .ref (bb 14), .ref (bb 15)])), ((bb 4), .inl (E.2.2 0, 36, .inl (fun _ => 0))), ((bb 5), .inl (E.2.2 2, 12, .inr (.inl (fun _ => 0)))), ((bb 6), .inl (E.2.2 0, 6, .inl (fun _ => 0))), ((bb 7), .inl (E.2.2 0, 6, .inl (fun _ => 0))), ((bb 8), .inl (E.2.2 0, 6, .inl (fun _ => 0))), ((bb 9), .inl (E.2.2 0, 10, .inl (fun _ => 0))), ((bb 10), .inl (E.2.2 0, 10, .inl (fun _ => 0))), ((bb 11), .inl (E.2.2 0, 10, .inl (fun _ => 0))), ((bb 12), .inl (E.2.2 0, 10, .inl (fun _ => 0))), ((bb 13), .inl (E.2.2 0, 10, .inl (fun _ => 0))), ((bb 14), .inl (E.2.2 0, 10, .inl (fun _ => 0))), ((bb 15), .inl (E.2.2 0, 60, .inl (fun _ => 0))), ((bb 16), .inr (0, [.ref (bb 17), .int 0, .ref (bb 30), .ref (bb 31), .ref (bb 32), .ref (bb 33), .ref (bb 34), .ref (bb 35)])), ((bb 17), .inr (7, [.int 0, .int 0, .int 0, .int 0, .int 0, .int 0, .ref (bb 18), .ref (bb 19), .ref (bb 20), .ref (bb 21), .ref (bb 22), .ref (bb 23), .ref (bb 24), .ref (bb 25), .ref (bb 26), .ref (bb 27), .ref (bb 28), .ref (bb 29)])), ((bb 18), .inl (E.2.2 0, 36, .inl (fun _ => 0))), ((bb 19), .inl (E.2.2 2, 12, .inr (.inl (fun _ => 0)))), ((bb 20), .inl (E.2.2 0, 6, .inl (fun _ => 0))), ((bb 21), .inl (E.2.2 0, 6, .inl (fun _ => 0))), ((bb 22), .inl (E.2.2 0, 6, .inl (fun _ => 0))), ((bb 23), .inl (E.2.2 0, 10, .inl (fun _ => 0))), ((bb 24), .inl (E.2.2 0, 10, .inl (fun _ => 0))), ((bb 25), .inl (E.2.2 0, 10, .inl (fun _ => 0))), ((bb 26), .inl (E.2.2 0, 10, .inl (fun _ => 0))), ((bb 27), .inl (E.2.2 0, 10, .inl (fun _ => 0))), ((bb 28), .inl (E.2.2 0, 10, .inl (fun _ => 0))), ((bb 29), .inl (E.2.2 0, 60, .inl (fun _ => 0))), ((bb 30), .inl (E.2.2 0, 6, .inl (fun _ => 0))), ((bb 31), .inl (E.2.2 0, 6, .inl (fun _ => 0))), ((bb 32), .inl (E.2.2 0, 6, .inl (fun _ => 0))), ((bb 33), .inl (E.2.2 2, 20, .inr (.inl (fun _ => 0)))), ((bb 34), .inl (E.2.2 0, 10, .inl (fun _ => 0))), ((bb 35), .inl (E.2.2 0, 10, .inl (fun _ => 0))), ((bb 36), .inl (E.2.2 4, 3, .inr (.inr (.inr (.inr (fun _ => none)))))), ((bb 37), .inr (1, [.ref (bb 38), .int 0, .int 0, .ref (bb 39)])), ((bb 38), .inl (E.2.2 0, 36, .inl (fun _ => 0))), ((bb 39), .inl (E.2.2 0, 3, .inl (fun _ => 0))), ((bb 40), .inr (2, [.int 0, .int 0, .int 0, .int 0, .ref (bb 41), .ref (bb 42), .ref (bb 43), .ref (bb 44), .ref (bb 45), .int 0, .int 0])), ((bb 41), .inl (E.2.2 0, 432, .inl (fun _ => 0))), ((bb 42), .inl (E.2.2 0, 432, .inl (fun _ => 0))), ((bb 43), .inl (E.2.2 0, 72, .inl (fun _ => 0))), ((bb 44), .inl (E.2.2 0, 78, .inl (fun _ => 0))), ((bb 45), .inl (E.2.2 2, 78, .inr (.inl (fun _ => 0)))), ((bb 46), .inr (4, [.int 0, .int 0, .int 0, .ref (bb 47), .int 0, .int 0, .int 0, .int 0, .int 0, .ref (bb 48)])), ((bb 47), .inl (E.2.2 0, 11, .inl (fun _ => 0))), ((bb 48), .inl (E.2.2 0, 132, .inl (fun _ => 0))), ((bb 49), .inr (6, [.int 0, .ref (bb 50), .ref (bb 51)])), ((bb 50), .inl (E.2.2 0, 8, .inl (fun _ => 0))), ((bb 51), .inl (E.2.2 0, 100, .inl vs)), ((bb 52), .inr (8, [.ref (bb 53), .int 0, .int 0])), ((bb 53), .inl (E.2.2 0, 10, .inl (fun _ => 0))), ((bb 54), .inr (5, [.ref (bb 55), .ref (bb 56), .ref (bb 57)])), ((bb 55), .inl (E.2.2 2, 240, .inr (.inl (fun _ => 0)))), ((bb 56), .inl (E.2.2 0, 4, .inl (fun _ => 0))), ((bb 57), .inl (E.2.2 0, 4, .inl ln)), (q5, .inr (10, [.int 0, .null, .null, .null, .null, .null, .int 0, .int 0, .int 0, .int 0, .int 0, .long 0, .int 0, .int 0, .int 0, .int 0, .null, .null, .null, .null, .null, .null, .null, .null, .int 0, .null, .null, .null, .null, .int 0, .int 0, .int 0, .null, .null, .int 0, .int 0, .null, .null, .null, .int 0, .int 0, .int 0, .int 0, .null, .null, .null, .int 0]))] 59 3817
  refine mp_callI hF (As := []) (rest := [.ref q5]) (wr := [(q1, .inr (9, [.ref (bb 1), .ref (bb 16), .ref (bb 36), .ref (bb 37), .ref (bb 40), .ref (bb 46), .ref (bb 49), .ref (bb 52), .ref (bb 54)])), ((bb 1), .inr (3, [.ref (bb 2), .int 0, .ref (bb 3), .int 0, .int (-1), .int 0, .int 0, .int 0, .int 0, .int 0])), ((bb 2), .inl (E.2.2 1, 1600, .inl (fun _ => 0))), ((bb 3), .inr (7, [.int 0, .int 0, .int 0, .int 0, .int 0, .int 0, .ref (bb 4), .ref (bb 5), .ref (bb 6), .ref (bb 7), .ref (bb 8), .ref (bb 9), .ref (bb 10), .ref (bb 11), .ref (bb 12), .ref (bb 13), .ref (bb 14), .ref (bb 15)])), ((bb 4), .inl (E.2.2 0, 36, .inl (fun _ => 0))), ((bb 5), .inl (E.2.2 2, 12, .inr (.inl (fun _ => 0)))), ((bb 6), .inl (E.2.2 0, 6, .inl (fun _ => 0))), ((bb 7), .inl (E.2.2 0, 6, .inl (fun _ => 0))), ((bb 8), .inl (E.2.2 0, 6, .inl (fun _ => 0))), ((bb 9), .inl (E.2.2 0, 10, .inl (fun _ => 0))), ((bb 10), .inl (E.2.2 0, 10, .inl (fun _ => 0))), ((bb 11), .inl (E.2.2 0, 10, .inl (fun _ => 0))), ((bb 12), .inl (E.2.2 0, 10, .inl (fun _ => 0))), ((bb 13), .inl (E.2.2 0, 10, .inl (fun _ => 0))), ((bb 14), .inl (E.2.2 0, 10, .inl (fun _ => 0))), ((bb 15), .inl (E.2.2 0, 60, .inl (fun _ => 0))), ((bb 16), .inr (0, [.ref (bb 17), .int 0, .ref (bb 30), .ref (bb 31), .ref (bb 32), .ref (bb 33), .ref (bb 34), .ref (bb 35)])), ((bb 17), .inr (7, [.int 0, .int 0, .int 0, .int 0, .int 0, .int 0, .ref (bb 18), .ref (bb 19), .ref (bb 20), .ref (bb 21), .ref (bb 22), .ref (bb 23), .ref (bb 24), .ref (bb 25), .ref (bb 26), .ref (bb 27), .ref (bb 28), .ref (bb 29)])), ((bb 18), .inl (E.2.2 0, 36, .inl (fun _ => 0))), ((bb 19), .inl (E.2.2 2, 12, .inr (.inl (fun _ => 0)))), ((bb 20), .inl (E.2.2 0, 6, .inl (fun _ => 0))), ((bb 21), .inl (E.2.2 0, 6, .inl (fun _ => 0))), ((bb 22), .inl (E.2.2 0, 6, .inl (fun _ => 0))), ((bb 23), .inl (E.2.2 0, 10, .inl (fun _ => 0))), ((bb 24), .inl (E.2.2 0, 10, .inl (fun _ => 0))), ((bb 25), .inl (E.2.2 0, 10, .inl (fun _ => 0))), ((bb 26), .inl (E.2.2 0, 10, .inl (fun _ => 0))), ((bb 27), .inl (E.2.2 0, 10, .inl (fun _ => 0))), ((bb 28), .inl (E.2.2 0, 10, .inl (fun _ => 0))), ((bb 29), .inl (E.2.2 0, 60, .inl (fun _ => 0))), ((bb 30), .inl (E.2.2 0, 6, .inl (fun _ => 0))), ((bb 31), .inl (E.2.2 0, 6, .inl (fun _ => 0))), ((bb 32), .inl (E.2.2 0, 6, .inl (fun _ => 0))), ((bb 33), .inl (E.2.2 2, 20, .inr (.inl (fun _ => 0)))), ((bb 34), .inl (E.2.2 0, 10, .inl (fun _ => 0))), ((bb 35), .inl (E.2.2 0, 10, .inl (fun _ => 0))), ((bb 36), .inl (E.2.2 4, 3, .inr (.inr (.inr (.inr (fun _ => none)))))), ((bb 37), .inr (1, [.ref (bb 38), .int 0, .int 0, .ref (bb 39)])), ((bb 38), .inl (E.2.2 0, 36, .inl (fun _ => 0))), ((bb 39), .inl (E.2.2 0, 3, .inl (fun _ => 0))), ((bb 40), .inr (2, [.int 0, .int 0, .int 0, .int 0, .ref (bb 41), .ref (bb 42), .ref (bb 43), .ref (bb 44), .ref (bb 45), .int 0, .int 0])), ((bb 41), .inl (E.2.2 0, 432, .inl (fun _ => 0))), ((bb 42), .inl (E.2.2 0, 432, .inl (fun _ => 0))), ((bb 43), .inl (E.2.2 0, 72, .inl (fun _ => 0))), ((bb 44), .inl (E.2.2 0, 78, .inl (fun _ => 0))), ((bb 45), .inl (E.2.2 2, 78, .inr (.inl (fun _ => 0)))), ((bb 46), .inr (4, [.int 0, .int 0, .int 0, .ref (bb 47), .int 0, .int 0, .int 0, .int 0, .int 0, .ref (bb 48)])), ((bb 47), .inl (E.2.2 0, 11, .inl (fun _ => 0))), ((bb 48), .inl (E.2.2 0, 132, .inl (fun _ => 0))), ((bb 49), .inr (6, [.int 0, .ref (bb 50), .ref (bb 51)])), ((bb 50), .inl (E.2.2 0, 8, .inl (fun _ => 0))), ((bb 51), .inl (E.2.2 0, 100, .inl vs)), ((bb 52), .inr (8, [.ref (bb 53), .int 0, .int 0])), ((bb 53), .inl (E.2.2 0, 10, .inl (fun _ => 0))), ((bb 54), .inr (5, [.ref (bb 55), .ref (bb 56), .ref (bb 57)])), ((bb 55), .inl (E.2.2 2, 240, .inr (.inl (fun _ => 0)))), ((bb 56), .inl (E.2.2 0, 4, .inl (fun _ => 0))), ((bb 57), .inl (E.2.2 0, 4, .inl ln))]) (k_Model E q5) mp_lkL_12 [58] [0, 1, 2, 3, 4, 5, 6, 7, 8, 9, 10, 11, 12, 13, 14, 15, 16, 17, 18, 19, 20, 21, 22, 23, 24, 25, 26, 27, 28, 29, 30, 31, 32, 33, 34, 35, 36, 37, 38, 39, 40, 41, 42, 43, 44, 45, 46, 47, 48, 49, 50, 51, 52, 53, 54, 55, 56, 57] rfl rfl rfl rfl rfl ⟨(Nat.le_of_ble_eq_true rfl), (Nat.le_of_ble_eq_true rfl), (Nat.le_of_ble_eq_true rfl), (Nat.le_of_ble_eq_true rfl)⟩ (Nat.le_of_ble_eq_true rfl) (by decide +kernel) (fun v6 w7 h8 => ?_)
  obtain ⟨rfl, mm, wd, hb2, hwd, rfl⟩ := h8
  show mp_W E X 4 15 [(1, .ref q1), (0, .ref b)] [.ref q5] [(q1, .inr (9, [.ref (bb 1), .ref (bb 16), .ref (bb 36), .ref (bb 37), .ref (bb 40), .ref (bb 46), .ref (bb 49), .ref (bb 52), .ref (bb 54)])), ((bb 1), .inr (3, [.ref (bb 2), .int 0, .ref (bb 3), .int 0, .int (-1), .int 0, .int 0, .int 0, .int 0, .int 0])), ((bb 2), .inl (E.2.2 1, 1600, .inl (fun _ => 0))), ((bb 3), .inr (7, [.int 0, .int 0, .int 0, .int 0, .int 0, .int 0, .ref (bb 4), .ref (bb 5), .ref (bb 6), .ref (bb 7), .ref (bb 8), .ref (bb 9), .ref (bb 10), .ref (bb 11), .ref (bb 12), .ref (bb 13), .ref (bb 14), .ref (bb 15)])), ((bb 4), .inl (E.2.2 0, 36, .inl (fun _ => 0))), ((bb 5), .inl (E.2.2 2, 12, .inr (.inl (fun _ => 0)))), ((bb 6), .inl (E.2.2 0, 6, .inl (fun _ => 0))), ((bb 7), .inl (E.2.2 0, 6, .inl (fun _ => 0))), ((bb 8), .inl (E.2.2 0, 6, .inl (fun _ => 0))), ((bb 9), .inl (E.2.2 0, 10, .inl (fun _ => 0))), ((bb 10), .inl (E.2.2 0, 10, .inl (fun _ => 0))), ((bb 11), .inl (E.2.2 0, 10, .inl (fun _ => 0))), ((bb 12), .inl (E.2.2 0, 10, .inl (fun _ => 0))), ((bb 13), .inl (E.2.2 0, 10, .inl (fun _ => 0))), ((bb 14), .inl (E.2.2 0, 10, .inl (fun _ => 0))), ((bb 15), .inl (E.2.2 0, 60, .inl (fun _ => 0))), ((bb 16), .inr (0, [.ref (bb 17), .int 0, .ref (bb 30), .ref (bb 31), .ref (bb 32), .ref (bb 33), .ref (bb 34), .ref (bb 35)])), ((bb 17), .inr (7, [.int 0, .int 0, .int 0, .int 0, .int 0, .int 0, .ref (bb 18), .ref (bb 19), .ref (bb 20), .ref (bb 21), .ref (bb 22), .ref (bb 23), .ref (bb 24), .ref (bb 25), .ref (bb 26), .ref (bb 27), .ref (bb 28), .ref (bb 29)])), ((bb 18), .inl (E.2.2 0, 36, .inl (fun _ => 0))), ((bb 19), .inl (E.2.2 2, 12, .inr (.inl (fun _ => 0)))), ((bb 20), .inl (E.2.2 0, 6, .inl (fun _ => 0))), ((bb 21), .inl (E.2.2 0, 6, .inl (fun _ => 0))), ((bb 22), .inl (E.2.2 0, 6, .inl (fun _ => 0))), ((bb 23), .inl (E.2.2 0, 10, .inl (fun _ => 0))), ((bb 24), .inl (E.2.2 0, 10, .inl (fun _ => 0))), ((bb 25), .inl (E.2.2 0, 10, .inl (fun _ => 0))), ((bb 26), .inl (E.2.2 0, 10, .inl (fun _ => 0))), ((bb 27), .inl (E.2.2 0, 10, .inl (fun _ => 0))), ((bb 28), .inl (E.2.2 0, 10, .inl (fun _ => 0))), ((bb 29), .inl (E.2.2 0, 60, .inl (fun _ => 0))), ((bb 30), .inl (E.2.2 0, 6, .inl (fun _ => 0))), ((bb 31), .inl (E.2.2 0, 6, .inl (fun _ => 0))), ((bb 32), .inl (E.2.2 0, 6, .inl (fun _ => 0))), ((bb 33), .inl (E.2.2 2, 20, .inr (.inl (fun _ => 0)))), ((bb 34), .inl (E.2.2 0, 10, .inl (fun _ => 0))), ((bb 35), .inl (E.2.2 0, 10, .inl (fun _ => 0))), ((bb 36), .inl (E.2.2 4, 3, .inr (.inr (.inr (.inr (fun _ => none)))))), ((bb 37), .inr (1, [.ref (bb 38), .int 0, .int 0, .ref (bb 39)])), ((bb 38), .inl (E.2.2 0, 36, .inl (fun _ => 0))), ((bb 39), .inl (E.2.2 0, 3, .inl (fun _ => 0))), ((bb 40), .inr (2, [.int 0, .int 0, .int 0, .int 0, .ref (bb 41), .ref (bb 42), .ref (bb 43), .ref (bb 44), .ref (bb 45), .int 0, .int 0])), ((bb 41), .inl (E.2.2 0, 432, .inl (fun _ => 0))), ((bb 42), .inl (E.2.2 0, 432, .inl (fun _ => 0))), ((bb 43), .inl (E.2.2 0, 72, .inl (fun _ => 0))), ((bb 44), .inl (E.2.2 0, 78, .inl (fun _ => 0))), ((bb 45), .inl (E.2.2 2, 78, .inr (.inl (fun _ => 0)))), ((bb 46), .inr (4, [.int 0, .int 0, .int 0, .ref (bb 47), .int 0, .int 0, .int 0, .int 0, .int 0, .ref (bb 48)])), ((bb 47), .inl (E.2.2 0, 11, .inl (fun _ => 0))), ((bb 48), .inl (E.2.2 0, 132, .inl (fun _ => 0))), ((bb 49), .inr (6, [.int 0, .ref (bb 50), .ref (bb 51)])), ((bb 50), .inl (E.2.2 0, 8, .inl (fun _ => 0))), ((bb 51), .inl (E.2.2 0, 100, .inl vs)), ((bb 52), .inr (8, [.ref (bb 53), .int 0, .int 0])), ((bb 53), .inl (E.2.2 0, 10, .inl (fun _ => 0))), ((bb 54), .inr (5, [.ref (bb 55), .ref (bb 56), .ref (bb 57)])), ((bb 55), .inl (E.2.2 2, 240, .inr (.inl (fun _ => 0)))), ((bb 56), .inl (E.2.2 0, 4, .inl (fun _ => 0))), ((bb 57), .inl (E.2.2 0, 4, .inl ln)), (q5, .inr (10, [.int 0, .ref (mm 1), .ref (mm 2), .ref (mm 3), .ref (mm 4), .ref (mm 5), .int 0, .int 0, .int 0, .int 0, .int 0, .long 0, .int 0, .int 0, .int 0, .int (-1), .ref (mm 6), .ref (mm 7), .ref (mm 8), .ref (mm 9), .ref (mm 10), .ref (mm 11), .ref (mm 12), .ref (mm 13), .int 0, .ref (mm 14), .ref (mm 15), .ref (mm 16), .ref (mm 17), .int 0, .int 0, .int 0, .ref (mm 18), .ref (mm 19), .int 0, .int 0, .ref (mm 20), .ref (mm 21), .ref (mm 22), .int 0, .int 0, .int 0, .int 0, .ref (mm 23), .ref (mm 24), .ref (mm 25), .int 0])), ((mm 1), .inl (E.2.2 0, 4, .inl wd)), ((mm 2), .inl (E.2.2 0, 4, .inl (fun _ => 0))), ((mm 3), .inl (E.2.2 2, 240, .inr (.inl (fun _ => 0)))), ((mm 4), .inl (E.2.2 2, 60, .inr (.inl (fun _ => 0)))), ((mm 5), .inl (E.2.2 1, 1600, .inl (fun _ => 0))), ((mm 6), .inl (E.2.2 0, 5, .inl (fun _ => 0))), ((mm 7), .inl (E.2.2 0, 25, .inl (fun _ => 0))), ((mm 8), .inl (E.2.2 0, 180, .inl (fun _ => 0))), ((mm 9), .inl (E.2.2 3, 3000, .inl (fun _ => 0))), ((mm 10), .inl (E.2.2 0, 90, .inl (fun _ => 0))), ((mm 11), .inl (E.2.2 0, 300, .inl (fun _ => 0))), ((mm 12), .inl (E.2.2 0, 300, .inl (fun _ => 0))), ((mm 13), .inl (E.2.2 3, 3, .inl (fun _ => 0))), ((mm 14), .inl (E.2.2 0, 6, .inl (fun _ => 0))), ((mm 15), .inl (E.2.2 0, 6, .inl (fun _ => 0))), ((mm 16), .inl (E.2.2 0, 6, .inl (fun _ => 0))), ((mm 17), .inl (E.2.2 3, 1500, .inl (fun _ => 0))), ((mm 18), .inl (E.2.2 0, 78, .inl (fun _ => 0))), ((mm 19), .inl (E.2.2 2, 78, .inr (.inl (fun _ => 0)))), ((mm 20), .inl (E.2.2 0, 6, .inl (fun _ => 0))), ((mm 21), .inl (E.2.2 0, 6, .inl (fun _ => 0))), ((mm 22), .inl (E.2.2 0, 3, .inl (fun _ => 0))), ((mm 23), .inl (E.2.2 0, 12, .inl (fun _ => 0))), ((mm 24), .inl (E.2.2 0, 12, .inl (fun _ => 0))), ((mm 25), .inl (E.2.2 0, 100, .inl (fun _ => 0)))] 84 11441
  refine mp_run hF mp_tabL_ok [mp_i (.astore_n 2), mp_c (.iconst 0) 0, mp_i (.istore_n 3)] (by decide +kernel) ?_
  show mp_W E X 4 18 [(3, .int 0), (2, .ref q5), (1, .ref q1), (0, .ref b)] [] [(q1, .inr (9, [.ref (bb 1), .ref (bb 16), .ref (bb 36), .ref (bb 37), .ref (bb 40), .ref (bb 46), .ref (bb 49), .ref (bb 52), .ref (bb 54)])), ((bb 1), .inr (3, [.ref (bb 2), .int 0, .ref (bb 3), .int 0, .int (-1), .int 0, .int 0, .int 0, .int 0, .int 0])), ((bb 2), .inl (E.2.2 1, 1600, .inl (fun _ => 0))), ((bb 3), .inr (7, [.int 0, .int 0, .int 0, .int 0, .int 0, .int 0, .ref (bb 4), .ref (bb 5), .ref (bb 6), .ref (bb 7), .ref (bb 8), .ref (bb 9), .ref (bb 10), .ref (bb 11), .ref (bb 12), .ref (bb 13), .ref (bb 14), .ref (bb 15)])), ((bb 4), .inl (E.2.2 0, 36, .inl (fun _ => 0))), ((bb 5), .inl (E.2.2 2, 12, .inr (.inl (fun _ => 0)))), ((bb 6), .inl (E.2.2 0, 6, .inl (fun _ => 0))), ((bb 7), .inl (E.2.2 0, 6, .inl (fun _ => 0))), ((bb 8), .inl (E.2.2 0, 6, .inl (fun _ => 0))), ((bb 9), .inl (E.2.2 0, 10, .inl (fun _ => 0))), ((bb 10), .inl (E.2.2 0, 10, .inl (fun _ => 0))), ((bb 11), .inl (E.2.2 0, 10, .inl (fun _ => 0))), ((bb 12), .inl (E.2.2 0, 10, .inl (fun _ => 0))), ((bb 13), .inl (E.2.2 0, 10, .inl (fun _ => 0))), ((bb 14), .inl (E.2.2 0, 10, .inl (fun _ => 0))), ((bb 15), .inl (E.2.2 0, 60, .inl (fun _ => 0))), ((bb 16), .inr (0, [.ref (bb 17), .int 0, .ref (bb 30), .ref (bb 31), .ref (bb 32), .ref (bb 33), .ref (bb 34), .ref (bb 35)])), ((bb 17), .inr (7, [.int 0, .int 0, .int 0, .int 0, .int 0, .int 0, .ref (bb 18), .ref (bb 19), .ref (bb 20), .ref (bb 21), .ref (bb 22), .ref (bb 23), .ref (bb 24), .ref (bb 25), .ref (bb 26), .ref (bb 27), .ref (bb 28), .ref (bb 29)])), ((bb 18), .inl (E.2.2 0, 36, .inl (fun _ => 0))), ((bb 19), .inl (E.2.2 2, 12, .inr (.inl (fun _ => 0)))), ((bb 20), .inl (E.2.2 0, 6, .inl (fun _ => 0))), ((bb 21), .inl (E.2.2 0, 6, .inl (fun _ => 0))), ((bb 22), .inl (E.2.2 0, 6, .inl (fun _ => 0))), ((bb 23), .inl (E.2.2 0, 10, .inl (fun _ => 0))), ((bb 24), .inl (E.2.2 0, 10, .inl (fun _ => 0))), ((bb 25), .inl (E.2.2 0, 10, .inl (fun _ => 0))), ((bb 26), .inl (E.2.2 0, 10, .inl (fun _ => 0))), ((bb 27), .inl (E.2.2 0, 10, .inl (fun _ => 0))), ((bb 28), .inl (E.2.2 0, 10, .inl (fun _ => 0))), ((bb 29), .inl (E.2.2 0, 60, .inl (fun _ => 0))), ((bb 30), .inl (E.2.2 0, 6, .inl (fun _ => 0))), ((bb 31), .inl (E.2.2 0, 6, .inl (fun _ => 0))), ((bb 32), .inl (E.2.2 0, 6, .inl (fun _ => 0))), ((bb 33), .inl (E.2.2 2, 20, .inr (.inl (fun _ => 0)))), ((bb 34), .inl (E.2.2 0, 10, .inl (fun _ => 0))), ((bb 35), .inl (E.2.2 0, 10, .inl (fun _ => 0))), ((bb 36), .inl (E.2.2 4, 3, .inr (.inr (.inr (.inr (fun _ => none)))))), ((bb 37), .inr (1, [.ref (bb 38), .int 0, .int 0, .ref (bb 39)])), ((bb 38), .inl (E.2.2 0, 36, .inl (fun _ => 0))), ((bb 39), .inl (E.2.2 0, 3, .inl (fun _ => 0))), ((bb 40), .inr (2, [.int 0, .int 0, .int 0, .int 0, .ref (bb 41), .ref (bb 42), .ref (bb 43), .ref (bb 44), .ref (bb 45), .int 0, .int 0])), ((bb 41), .inl (E.2.2 0, 432, .inl (fun _ => 0))), ((bb 42), .inl (E.2.2 0, 432, .inl (fun _ => 0))), ((bb 43), .inl (E.2.2 0, 72, .inl (fun _ => 0))), ((bb 44), .inl (E.2.2 0, 78, .inl (fun _ => 0))), ((bb 45), .inl (E.2.2 2, 78, .inr (.inl (fun _ => 0)))), ((bb 46), .inr (4, [.int 0, .int 0, .int 0, .ref (bb 47), .int 0, .int 0, .int 0, .int 0, .int 0, .ref (bb 48)])), ((bb 47), .inl (E.2.2 0, 11, .inl (fun _ => 0))), ((bb 48), .inl (E.2.2 0, 132, .inl (fun _ => 0))), ((bb 49), .inr (6, [.int 0, .ref (bb 50), .ref (bb 51)])), ((bb 50), .inl (E.2.2 0, 8, .inl (fun _ => 0))), ((bb 51), .inl (E.2.2 0, 100, .inl vs)), ((bb 52), .inr (8, [.ref (bb 53), .int 0, .int 0])), ((bb 53), .inl (E.2.2 0, 10, .inl (fun _ => 0))), ((bb 54), .inr (5, [.ref (bb 55), .ref (bb 56), .ref (bb 57)])), ((bb 55), .inl (E.2.2 2, 240, .inr (.inl (fun _ => 0)))), ((bb 56), .inl (E.2.2 0, 4, .inl (fun _ => 0))), ((bb 57), .inl (E.2.2 0, 4, .inl ln)), (q5, .inr (10, [.int 0, .ref (mm 1), .ref (mm 2), .ref (mm 3), .ref (mm 4), .ref (mm 5), .int 0, .int 0, .int 0, .int 0, .int 0, .long 0, .int 0, .int 0, .int 0, .int (-1), .ref (mm 6), .ref (mm 7), .ref (mm 8), .ref (mm 9), .ref (mm 10), .ref (mm 11), .ref (mm 12), .ref (mm 13), .int 0, .ref (mm 14), .ref (mm 15), .ref (mm 16), .ref (mm 17), .int 0, .int 0, .int 0, .ref (mm 18), .ref (mm 19), .int 0, .int 0, .ref (mm 20), .ref (mm 21), .ref (mm 22), .int 0, .int 0, .int 0, .int 0, .ref (mm 23), .ref (mm 24), .ref (mm 25), .int 0])), ((mm 1), .inl (E.2.2 0, 4, .inl wd)), ((mm 2), .inl (E.2.2 0, 4, .inl (fun _ => 0))), ((mm 3), .inl (E.2.2 2, 240, .inr (.inl (fun _ => 0)))), ((mm 4), .inl (E.2.2 2, 60, .inr (.inl (fun _ => 0)))), ((mm 5), .inl (E.2.2 1, 1600, .inl (fun _ => 0))), ((mm 6), .inl (E.2.2 0, 5, .inl (fun _ => 0))), ((mm 7), .inl (E.2.2 0, 25, .inl (fun _ => 0))), ((mm 8), .inl (E.2.2 0, 180, .inl (fun _ => 0))), ((mm 9), .inl (E.2.2 3, 3000, .inl (fun _ => 0))), ((mm 10), .inl (E.2.2 0, 90, .inl (fun _ => 0))), ((mm 11), .inl (E.2.2 0, 300, .inl (fun _ => 0))), ((mm 12), .inl (E.2.2 0, 300, .inl (fun _ => 0))), ((mm 13), .inl (E.2.2 3, 3, .inl (fun _ => 0))), ((mm 14), .inl (E.2.2 0, 6, .inl (fun _ => 0))), ((mm 15), .inl (E.2.2 0, 6, .inl (fun _ => 0))), ((mm 16), .inl (E.2.2 0, 6, .inl (fun _ => 0))), ((mm 17), .inl (E.2.2 3, 1500, .inl (fun _ => 0))), ((mm 18), .inl (E.2.2 0, 78, .inl (fun _ => 0))), ((mm 19), .inl (E.2.2 2, 78, .inr (.inl (fun _ => 0)))), ((mm 20), .inl (E.2.2 0, 6, .inl (fun _ => 0))), ((mm 21), .inl (E.2.2 0, 6, .inl (fun _ => 0))), ((mm 22), .inl (E.2.2 0, 3, .inl (fun _ => 0))), ((mm 23), .inl (E.2.2 0, 12, .inl (fun _ => 0))), ((mm 24), .inl (E.2.2 0, 12, .inl (fun _ => 0))), ((mm 25), .inl (E.2.2 0, 100, .inl (fun _ => 0)))] 84 11441
  rcases (show L = 0 ∨ L = 1 ∨ L = 2 ∨ L = 3 ∨ L = 4 ∨ L = 5 ∨ L = 6 by omega) with rfl | rfl | rfl | rfl | rfl | rfl | rfl
  · skip
    have hF : mp_F E X (RL, code, 4, (2048, 600000, 7302250, 84000), ret, false) := hL.1
    show mp_W E X 4 18 [(3, .int 0), (2, .ref q5), (1, .ref q1), (0, .ref b)] [] (mp_w0 E q1 q5 bb mm vs ln wd) 84 11441
    refine mp_run hF mp_tabL_ok [mp_i (.iload_n 3), mp_i (.aload_n 0)] (by decide +kernel) ?_
    show mp_W E X 4 20 [(3, .int 0), (2, .ref q5), (1, .ref q1), (0, .ref b)] [.ref b, .int 0] (mp_w0 E q1 q5 bb mm vs ln wd) 84 11441
    refine mp_lslen hL (z := 0) (by decide) (by decide +kernel) ?_
    show mp_W E X 4 21 [(3, .int 0), (2, .ref q5), (1, .ref q1), (0, .ref b)] [.int 0, .int 0] (mp_w0 E q1 q5 bb mm vs ln wd) 84 11441
    refine mp_run hF mp_tabL_ok [mp_c (.bipush 6) 6, mp_i .isub, mp_h (.if_icmp .gt 2201) [2225]] (by decide +kernel) ?_
    intro z9 h10
    obtain rfl : z9 = (-6) := h10.trans (by decide)
    refine And.intro (fun _ => ?_) (fun c11 => absurd c11 (by decide))
    show mp_W E X 4 2225 [(3, .int 0), (2, .ref q5), (1, .ref q1), (0, .ref b)] [] (mp_w0 E q1 q5 bb mm vs ln wd) 84 11441
    refine mp_run hF mp_tabL_ok [mp_c (.iconst 1) 1] (by decide +kernel) ?_
    show mp_W E X 4 2226 [(3, .int 0), (2, .ref q5), (1, .ref q1), (0, .ref b)] [.int 1] (mp_w0 E q1 q5 bb mm vs ln wd) 84 11441
    exact hL.2.2.2.2 _ _ _ _ _ (Nat.le_of_ble_eq_true rfl) (Nat.le_of_ble_eq_true rfl) (by decide +kernel)
  · skip
    have hF : mp_F E X (RL, code, 4, (2048, 600000, 7302250, 84000), ret, false) := hL.1
    show mp_W E X 4 18 [(3, .int 0), (2, .ref q5), (1, .ref q1), (0, .ref b)] [] (mp_w0 E q1 q5 bb mm vs ln wd) 84 11441
    refine mp_run hF mp_tabL_ok [mp_i (.iload_n 3), mp_i (.aload_n 0)] (by decide +kernel) ?_
    show mp_W E X 4 20 [(3, .int 0), (2, .ref q5), (1, .ref q1), (0, .ref b)] [.ref b, .int 0] (mp_w0 E q1 q5 bb mm vs ln wd) 84 11441
    refine mp_lslen hL (z := 1) (by decide) (by decide +kernel) ?_
    show mp_W E X 4 21 [(3, .int 0), (2, .ref q5), (1, .ref q1), (0, .ref b)] [.int 1, .int 0] (mp_w0 E q1 q5 bb mm vs ln wd) 84 11441
    refine mp_run hF mp_tabL_ok [mp_c (.bipush 6) 6, mp_i .isub, mp_h (.if_icmp .gt 2201) [2225]] (by decide +kernel) ?_
    intro z12 h13
    obtain rfl : z12 = (-5) := h13.trans (by decide)
    refine And.intro (fun _ => ?_) (fun c14 => absurd c14 (by decide))
    show mp_W E X 4 2225 [(3, .int 0), (2, .ref q5), (1, .ref q1), (0, .ref b)] [] (mp_w0 E q1 q5 bb mm vs ln wd) 84 11441
    refine mp_run hF mp_tabL_ok [mp_c (.iconst 1) 1] (by decide +kernel) ?_
    show mp_W E X 4 2226 [(3, .int 0), (2, .ref q5), (1, .ref q1), (0, .ref b)] [.int 1] (mp_w0 E q1 q5 bb mm vs ln wd) 84 11441
    exact hL.2.2.2.2 _ _ _ _ _ (Nat.le_of_ble_eq_true rfl) (Nat.le_of_ble_eq_true rfl) (by decide +kernel)
  · skip
    have hF : mp_F E X (RL, code, 4, (2048, 600000, 7302250, 84000), ret, false) := hL.1
    show mp_W E X 4 18 [(3, .int 0), (2, .ref q5), (1, .ref q1), (0, .ref b)] [] (mp_w0 E q1 q5 bb mm vs ln wd) 84 11441
    refine mp_run hF mp_tabL_ok [mp_i (.iload_n 3), mp_i (.aload_n 0)] (by decide +kernel) ?_
    show mp_W E X 4 20 [(3, .int 0), (2, .ref q5), (1, .ref q1), (0, .ref b)] [.ref b, .int 0] (mp_w0 E q1 q5 bb mm vs ln wd) 84 11441
    refine mp_lslen hL (z := 2) (by decide) (by decide +kernel) ?_
    show mp_W E X 4 21 [(3, .int 0), (2, .ref q5), (1, .ref q1), (0, .ref b)] [.int 2, .int 0] (mp_w0 E q1 q5 bb mm vs ln wd) 84 11441
    refine mp_run hF mp_tabL_ok [mp_c (.bipush 6) 6, mp_i .isub, mp_h (.if_icmp .gt 2201) [2225]] (by decide +kernel) ?_
    intro z15 h16
    obtain rfl : z15 = (-4) := h16.trans (by decide)
    refine And.intro (fun _ => ?_) (fun c17 => absurd c17 (by decide))
    show mp_W E X 4 2225 [(3, .int 0), (2, .ref q5), (1, .ref q1), (0, .ref b)] [] (mp_w0 E q1 q5 bb mm vs ln wd) 84 11441
    refine mp_run hF mp_tabL_ok [mp_c (.iconst 1) 1] (by decide +kernel) ?_
    show mp_W E X 4 2226 [(3, .int 0), (2, .ref q5), (1, .ref q1), (0, .ref b)] [.int 1] (mp_w0 E q1 q5 bb mm vs ln wd) 84 11441
    exact hL.2.2.2.2 _ _ _ _ _ (Nat.le_of_ble_eq_true rfl) (Nat.le_of_ble_eq_true rfl) (by decide +kernel)
  · skip
    have hF : mp_F E X (RL, code, 4, (2048, 600000, 7302250, 84000), ret, false) := hL.1
    show mp_W E X 4 18 [(3, .int 0), (2, .ref q5), (1, .ref q1), (0, .ref b)] [] (mp_w0 E q1 q5 bb mm vs ln wd) 84 11441
    refine mp_run hF mp_tabL_ok [mp_i (.iload_n 3), mp_i (.aload_n 0)] (by decide +kernel) ?_
    show mp_W E X 4 20 [(3, .int 0), (2, .ref q5), (1, .ref q1), (0, .ref b)] [.ref b, .int 0] (mp_w0 E q1 q5 bb mm vs ln wd) 84 11441
    refine mp_lslen hL (z := 3) (by decide) (by decide +kernel) ?_
    show mp_W E X 4 21 [(3, .int 0), (2, .ref q5), (1, .ref q1), (0, .ref b)] [.int 3, .int 0] (mp_w0 E q1 q5 bb mm vs ln wd) 84 11441
    refine mp_run hF mp_tabL_ok [mp_c (.bipush 6) 6, mp_i .isub, mp_h (.if_icmp .gt 2201) [2225]] (by decide +kernel) ?_
    intro z18 h19
    obtain rfl : z18 = (-3) := h19.trans (by decide)
    refine And.intro (fun _ => ?_) (fun c20 => absurd c20 (by decide))
    show mp_W E X 4 2225 [(3, .int 0), (2, .ref q5), (1, .ref q1), (0, .ref b)] [] (mp_w0 E q1 q5 bb mm vs ln wd) 84 11441
    refine mp_run hF mp_tabL_ok [mp_c (.iconst 1) 1] (by decide +kernel) ?_
    show mp_W E X 4 2226 [(3, .int 0), (2, .ref q5), (1, .ref q1), (0, .ref b)] [.int 1] (mp_w0 E q1 q5 bb mm vs ln wd) 84 11441
    exact hL.2.2.2.2 _ _ _ _ _ (Nat.le_of_ble_eq_true rfl) (Nat.le_of_ble_eq_true rfl) (by decide +kernel)
  · skip
    have hF : mp_F E X (RL, code, 4, (2048, 600000, 7302250, 84000), ret, false) := hL.1
    show mp_W E X 4 18 [(3, .int 0), (2, .ref q5), (1, .ref q1), (0, .ref b)] [] (mp_w0 E q1 q5 bb mm vs ln wd) 84 11441
    refine mp_run hF mp_tabL_ok [mp_i (.iload_n 3), mp_i (.aload_n 0)] (by decide +kernel) ?_
    show mp_W E X 4 20 [(3, .int 0), (2, .ref q5), (1, .ref q1), (0, .ref b)] [.ref b, .int 0] (mp_w0 E q1 q5 bb mm vs ln wd) 84 11441
    refine mp_lslen hL (z := 4) (by decide) (by decide +kernel) ?_
    show mp_W E X 4 21 [(3, .int 0), (2, .ref q5), (1, .ref q1), (0, .ref b)] [.int 4, .int 0] (mp_w0 E q1 q5 bb mm vs ln wd) 84 11441
    refine mp_run hF mp_tabL_ok [mp_c (.bipush 6) 6, mp_i .isub, mp_h (.if_icmp .gt 2201) [2225]] (by decide +kernel) ?_
    intro z21 h22
    obtain rfl : z21 = (-2) := h22.trans (by decide)
    refine And.intro (fun _ => ?_) (fun c23 => absurd c23 (by decide))
    show mp_W E X 4 2225 [(3, .int 0), (2, .ref q5), (1, .ref q1), (0, .ref b)] [] (mp_w0 E q1 q5 bb mm vs ln wd) 84 11441
    refine mp_run hF mp_tabL_ok [mp_c (.iconst 1) 1] (by decide +kernel) ?_
    show mp_W E X 4 2226 [(3, .int 0), (2, .ref q5), (1, .ref q1), (0, .ref b)] [.int 1] (mp_w0 E q1 q5 bb mm vs ln wd) 84 11441
    exact hL.2.2.2.2 _ _ _ _ _ (Nat.le_of_ble_eq_true rfl) (Nat.le_of_ble_eq_true rfl) (by decide +kernel)
  · skip
    have hF : mp_F E X (RL, code, 4, (2048, 600000, 7302250, 84000), ret, false) := hL.1
    show mp_W E X 4 18 [(3, .int 0), (2, .ref q5), (1, .ref q1), (0, .ref b)] [] (mp_w0 E q1 q5 bb mm vs ln wd) 84 11441
    refine mp_run hF mp_tabL_ok [mp_i (.iload_n 3), mp_i (.aload_n 0)] (by decide +kernel) ?_
    show mp_W E X 4 20 [(3, .int 0), (2, .ref q5), (1, .ref q1), (0, .ref b)] [.ref b, .int 0] (mp_w0 E q1 q5 bb mm vs ln wd) 84 11441
    refine mp_lslen hL (z := 5) (by decide) (by decide +kernel) ?_
    show mp_W E X 4 21 [(3, .int 0), (2, .ref q5), (1, .ref q1), (0, .ref b)] [.int 5, .int 0] (mp_w0 E q1 q5 bb mm vs ln wd) 84 11441
    refine mp_run hF mp_tabL_ok [mp_c (.bipush 6) 6, mp_i .isub, mp_h (.if_icmp .gt 2201) [2225]] (by decide +kernel) ?_
    intro z24 h25
    obtain rfl : z24 = (-1) := h25.trans (by decide)
    refine And.intro (fun _ => ?_) (fun c26 => absurd c26 (by decide))
    show mp_W E X 4 2225 [(3, .int 0), (2, .ref q5), (1, .ref q1), (0, .ref b)] [] (mp_w0 E q1 q5 bb mm vs ln wd) 84 11441
    refine mp_run hF mp_tabL_ok [mp_c (.iconst 1) 1] (by decide +kernel) ?_
    show mp_W E X 4 2226 [(3, .int 0), (2, .ref q5), (1, .ref q1), (0, .ref b)] [.int 1] (mp_w0 E q1 q5 bb mm vs ln wd) 84 11441
    exact hL.2.2.2.2 _ _ _ _ _ (Nat.le_of_ble_eq_true rfl) (Nat.le_of_ble_eq_true rfl) (by decide +kernel)
  · skip
    have hF : mp_F E X (RL, code, 4, (2048, 600000, 7302250, 84000), ret, false) := hL.1
    show mp_W E X 4 18 [(3, .int 0), (2, .ref q5), (1, .ref q1), (0, .ref b)] [] (mp_w0 E q1 q5 bb mm vs ln wd) 84 11441
    refine mp_run hF mp_tabL_ok [mp_i (.iload_n 3), mp_i (.aload_n 0)] (by decide +kernel) ?_
    show mp_W E X 4 20 [(3, .int 0), (2, .ref q5), (1, .ref q1), (0, .ref b)] [.ref b, .int 0] (mp_w0 E q1 q5 bb mm vs ln wd) 84 11441
    refine mp_lslen hL (z := 6) (by decide) (by decide +kernel) ?_
    show mp_W E X 4 21 [(3, .int 0), (2, .ref q5), (1, .ref q1), (0, .ref b)] [.int 6, .int 0] (mp_w0 E q1 q5 bb mm vs ln wd) 84 11441
    refine mp_run hF mp_tabL_ok [mp_c (.bipush 6) 6, mp_i .isub, mp_h (.if_icmp .gt 2201) [2225]] (by decide +kernel) ?_
    intro z27 h28
    obtain rfl : z27 = 0 := h28.trans (by decide)
    refine And.intro (fun c29 => absurd c29 (by decide)) (fun _ => ?_)
    show mp_W E X 4 27 [(3, .int 0), (2, .ref q5), (1, .ref q1), (0, .ref b)] [] (mp_w0 E q1 q5 bb mm vs ln wd) 84 11441
    refine mp_run hF mp_tabL_ok [mp_i (.aload_n 0), mp_i (.iload_n 3)] (by decide +kernel) ?_
    show mp_W E X 4 29 [(3, .int 0), (2, .ref q5), (1, .ref q1), (0, .ref b)] [.int 0, .ref b] (mp_w0 E q1 q5 bb mm vs ln wd) 84 11441
    refine mp_lsld hL 0 (by decide) (by decide) (by decide) (by decide +kernel) ?_
    show mp_W E X 4 30 [(3, .int 0), (2, .ref q5), (1, .ref q1), (0, .ref b)] [.int (xs 0)] (mp_w0 E q1 q5 bb mm vs ln wd) 84 11441
    refine mp_run hF mp_tabL_ok [mp_c (.bipush 63) 63, mp_i .iand] (by decide +kernel) ?_
    intro z30 h31
    show mp_W E X 4 33 [(3, .int 0), (2, .ref q5), (1, .ref q1), (0, .ref b)] [.int z30] (mp_w0 E q1 q5 bb mm vs ln wd) 84 11441
    by_cases c33 : z30.toInt < 0
    · refine mp_tabOut hF (dflt := 2186) (lo := 0) (hi := 59) (offs := mp_loffs) (len := 255) (by decide +kernel) (Or.inl c33) (tgt := 2219) (by decide) ?_
      show mp_W E X 4 2219 [(3, .int 0), (2, .ref q5), (1, .ref q1), (0, .ref b)] [] (mp_w0 E q1 q5 bb mm vs ln wd) 84 11441
      exact mp_sub [3, 0] rfl [] rfl rfl (mp_lw_next hL (Nat.le_of_ble_eq_true rfl) (Nat.le_of_ble_eq_true rfl))
    by_cases c34 : 59 < z30.toInt
    · refine mp_tabOut hF (dflt := 2186) (lo := 0) (hi := 59) (offs := mp_loffs) (len := 255) (by decide +kernel) (Or.inr c34) (tgt := 2219) (by decide) ?_
      show mp_W E X 4 2219 [(3, .int 0), (2, .ref q5), (1, .ref q1), (0, .ref b)] [] (mp_w0 E q1 q5 bb mm vs ln wd) 84 11441
      exact mp_sub [3, 0] rfl [] rfl rfl (mp_lw_next hL (Nat.le_of_ble_eq_true rfl) (Nat.le_of_ble_eq_true rfl))
    by_cases c35 : z30.toInt ≤ 29
    · skip
      by_cases c36 : z30.toInt ≤ 14
      · skip
        by_cases c37 : z30.toInt ≤ 7
        · skip
          by_cases c38 : z30.toInt ≤ 3
          · skip
            by_cases c39 : z30.toInt ≤ 1
            · skip
              by_cases c40 : z30.toInt ≤ 0
              · skip
                have c41 : z30.toInt = 0 := by omega
                refine mp_tabIn hF (dflt := 2186) (lo := 0) (hi := 59) (offs := mp_loffs) (len := 255) (off := 255) (tgt := 288) (by decide +kernel) (by omega) (by omega) (by rw [c41]; rfl) (by decide) ?_
                exact mp_case_0 hL q1 q5 bb mm vs ln wd hln hwd
              · skip
                have c42 : z30.toInt = 1 := by omega
                refine mp_tabIn hF (dflt := 2186) (lo := 0) (hi := 59) (offs := mp_loffs) (len := 255) (off := 318) (tgt := 351) (by decide +kernel) (by omega) (by omega) (by rw [c42]; rfl) (by decide) ?_
                exact mp_case_1 hL q1 q5 bb mm vs ln wd hln hwd
            · skip
              by_cases c43 : z30.toInt ≤ 2
              · skip
                have c44 : z30.toInt = 2 := by omega
                refine mp_tabIn hF (dflt := 2186) (lo := 0) (hi := 59) (offs := mp_loffs) (len := 255) (off := 341) (tgt := 374) (by decide +kernel) (by omega) (by omega) (by rw [c44]; rfl) (by decide) ?_
                exact mp_case_2 hL q1 q5 bb mm vs ln wd hln hwd
              · skip
                have c45 : z30.toInt = 3 := by omega
                refine mp_tabIn hF (dflt := 2186) (lo := 0) (hi := 59) (offs := mp_loffs) (len := 255) (off := 354) (tgt := 387) (by decide +kernel) (by omega) (by omega) (by rw [c45]; rfl) (by decide) ?_
                exact mp_case_3 hL q1 q5 bb mm vs ln wd hln hwd
          · skip
            by_cases c46 : z30.toInt ≤ 5
            · skip
              by_cases c47 : z30.toInt ≤ 4
              · skip
                have c48 : z30.toInt = 4 := by omega
                refine mp_tabIn hF (dflt := 2186) (lo := 0) (hi := 59) (offs := mp_loffs) (len := 255) (off := 377) (tgt := 410) (by decide +kernel) (by omega) (by omega) (by rw [c48]; rfl) (by decide) ?_
                exact mp_case_4 hL q1 q5 bb mm vs ln wd hln hwd
              · skip
                have c49 : z30.toInt = 5 := by omega
                refine mp_tabIn hF (dflt := 2186) (lo := 0) (hi := 59) (offs := mp_loffs) (len := 255) (off := 410) (tgt := 443) (by decide +kernel) (by omega) (by omega) (by rw [c49]; rfl) (by decide) ?_
                exact mp_case_5 hL q1 q5 bb mm vs ln wd hln hwd
            · skip
              by_cases c50 : z30.toInt ≤ 6
              · skip
                have c51 : z30.toInt = 6 := by omega
                refine mp_tabIn hF (dflt := 2186) (lo := 0) (hi := 59) (offs := mp_loffs) (len := 255) (off := 443) (tgt := 476) (by decide +kernel) (by omega) (by omega) (by rw [c51]; rfl) (by decide) ?_
                exact mp_case_6 hL q1 q5 bb mm vs ln wd hln hwd
              · skip
                have c52 : z30.toInt = 7 := by omega
                refine mp_tabIn hF (dflt := 2186) (lo := 0) (hi := 59) (offs := mp_loffs) (len := 255) (off := 476) (tgt := 509) (by decide +kernel) (by omega) (by omega) (by rw [c52]; rfl) (by decide) ?_
                exact mp_case_7 hL q1 q5 bb mm vs ln wd hln hwd
        · skip
          by_cases c53 : z30.toInt ≤ 11
          · skip
            by_cases c54 : z30.toInt ≤ 9
            · skip
              by_cases c55 : z30.toInt ≤ 8
              · skip
                have c56 : z30.toInt = 8 := by omega
                refine mp_tabIn hF (dflt := 2186) (lo := 0) (hi := 59) (offs := mp_loffs) (len := 255) (off := 509) (tgt := 542) (by decide +kernel) (by omega) (by omega) (by rw [c56]; rfl) (by decide) ?_
                exact mp_case_8 hL q1 q5 bb mm vs ln wd hln hwd
              · skip
                have c57 : z30.toInt = 9 := by omega
                refine mp_tabIn hF (dflt := 2186) (lo := 0) (hi := 59) (offs := mp_loffs) (len := 255) (off := 542) (tgt := 575) (by decide +kernel) (by omega) (by omega) (by rw [c57]; rfl) (by decide) ?_
                exact mp_case_9 hL q1 q5 bb mm vs ln wd hln hwd
            · skip
              by_cases c58 : z30.toInt ≤ 10
              · skip
                have c59 : z30.toInt = 10 := by omega
                refine mp_tabIn hF (dflt := 2186) (lo := 0) (hi := 59) (offs := mp_loffs) (len := 255) (off := 575) (tgt := 608) (by decide +kernel) (by omega) (by omega) (by rw [c59]; rfl) (by decide) ?_
                exact mp_case_10 hL q1 q5 bb mm vs ln wd hln hwd
              · skip
                have c60 : z30.toInt = 11 := by omega
                refine mp_tabIn hF (dflt := 2186) (lo := 0) (hi := 59) (offs := mp_loffs) (len := 255) (off := 608) (tgt := 641) (by decide +kernel) (by omega) (by omega) (by rw [c60]; rfl) (by decide) ?_
                exact mp_case_11 hL q1 q5 bb mm vs ln wd hln hwd
          · skip
            by_cases c61 : z30.toInt ≤ 13
            · skip
              by_cases c62 : z30.toInt ≤ 12
              · skip
                have c63 : z30.toInt = 12 := by omega
                refine mp_tabIn hF (dflt := 2186) (lo := 0) (hi := 59) (offs := mp_loffs) (len := 255) (off := 651) (tgt := 684) (by decide +kernel) (by omega) (by omega) (by rw [c63]; rfl) (by decide) ?_
                exact mp_case_12 hL q1 q5 bb mm vs ln wd hln hwd
              · skip
                have c64 : z30.toInt = 13 := by omega
                refine mp_tabIn hF (dflt := 2186) (lo := 0) (hi := 59) (offs := mp_loffs) (len := 255) (off := 694) (tgt := 727) (by decide +kernel) (by omega) (by omega) (by rw [c64]; rfl) (by decide) ?_
                exact mp_case_13 hL q1 q5 bb mm vs ln wd hln hwd
            · skip
              have c65 : z30.toInt = 14 := by omega
              refine mp_tabIn hF (dflt := 2186) (lo := 0) (hi := 59) (offs := mp_loffs) (len := 255) (off := 717) (tgt := 750) (by decide +kernel) (by omega) (by omega) (by rw [c65]; rfl) (by decide) ?_
              exact mp_case_14 hL q1 q5 bb mm vs ln wd hln hwd
      · skip
        by_cases c66 : z30.toInt ≤ 22
        · skip
          by_cases c67 : z30.toInt ≤ 18
          · skip
            by_cases c68 : z30.toInt ≤ 16
            · skip
              by_cases c69 : z30.toInt ≤ 15
              · skip
                have c70 : z30.toInt = 15 := by omega
                refine mp_tabIn hF (dflt := 2186) (lo := 0) (hi := 59) (offs := mp_loffs) (len := 255) (off := 740) (tgt := 773) (by decide +kernel) (by omega) (by omega) (by rw [c70]; rfl) (by decide) ?_
                exact mp_case_15 hL q1 q5 bb mm vs ln wd hln hwd
              · skip
                have c71 : z30.toInt = 16 := by omega
                refine mp_tabIn hF (dflt := 2186) (lo := 0) (hi := 59) (offs := mp_loffs) (len := 255) (off := 763) (tgt := 796) (by decide +kernel) (by omega) (by omega) (by rw [c71]; rfl) (by decide) ?_
                exact mp_case_16 hL q1 q5 bb mm vs ln wd hln hwd
            · skip
              by_cases c72 : z30.toInt ≤ 17
              · skip
                have c73 : z30.toInt = 17 := by omega
                refine mp_tabIn hF (dflt := 2186) (lo := 0) (hi := 59) (offs := mp_loffs) (len := 255) (off := 786) (tgt := 819) (by decide +kernel) (by omega) (by omega) (by rw [c73]; rfl) (by decide) ?_
                exact mp_case_17 hL q1 q5 bb mm vs ln wd hln hwd
              · skip
                have c74 : z30.toInt = 18 := by omega
                refine mp_tabIn hF (dflt := 2186) (lo := 0) (hi := 59) (offs := mp_loffs) (len := 255) (off := 799) (tgt := 832) (by decide +kernel) (by omega) (by omega) (by rw [c74]; rfl) (by decide) ?_
                exact mp_case_18 hL q1 q5 bb mm vs ln wd hln hwd
          · skip
            by_cases c75 : z30.toInt ≤ 20
            · skip
              by_cases c76 : z30.toInt ≤ 19
              · skip
                have c77 : z30.toInt = 19 := by omega
                refine mp_tabIn hF (dflt := 2186) (lo := 0) (hi := 59) (offs := mp_loffs) (len := 255) (off := 822) (tgt := 855) (by decide +kernel) (by omega) (by omega) (by rw [c77]; rfl) (by decide) ?_
                exact mp_case_19 hL q1 q5 bb mm vs ln wd hln hwd
              · skip
                have c78 : z30.toInt = 20 := by omega
                refine mp_tabIn hF (dflt := 2186) (lo := 0) (hi := 59) (offs := mp_loffs) (len := 255) (off := 845) (tgt := 878) (by decide +kernel) (by omega) (by omega) (by rw [c78]; rfl) (by decide) ?_
                exact mp_case_20 hL q1 q5 bb mm vs ln wd hln hwd
            · skip
              by_cases c79 : z30.toInt ≤ 21
              · skip
                have c80 : z30.toInt = 21 := by omega
                refine mp_tabIn hF (dflt := 2186) (lo := 0) (hi := 59) (offs := mp_loffs) (len := 255) (off := 878) (tgt := 911) (by decide +kernel) (by omega) (by omega) (by rw [c80]; rfl) (by decide) ?_
                exact mp_case_21 hL q1 q5 bb mm vs ln wd hln hwd
              · skip
                have c81 : z30.toInt = 22 := by omega
                refine mp_tabIn hF (dflt := 2186) (lo := 0) (hi := 59) (offs := mp_loffs) (len := 255) (off := 901) (tgt := 934) (by decide +kernel) (by omega) (by omega) (by rw [c81]; rfl) (by decide) ?_
                exact mp_case_22 hL q1 q5 bb mm vs ln wd hln hwd
        · skip
          by_cases c82 : z30.toInt ≤ 26
          · skip
            by_cases c83 : z30.toInt ≤ 24
            · skip
              by_cases c84 : z30.toInt ≤ 23
              · skip
                have c85 : z30.toInt = 23 := by omega
                refine mp_tabIn hF (dflt := 2186) (lo := 0) (hi := 59) (offs := mp_loffs) (len := 255) (off := 914) (tgt := 947) (by decide +kernel) (by omega) (by omega) (by rw [c85]; rfl) (by decide) ?_
                exact mp_case_23 hL q1 q5 bb mm vs ln wd hln hwd
              · skip
                have c86 : z30.toInt = 24 := by omega
                refine mp_tabIn hF (dflt := 2186) (lo := 0) (hi := 59) (offs := mp_loffs) (len := 255) (off := 927) (tgt := 960) (by decide +kernel) (by omega) (by omega) (by rw [c86]; rfl) (by decide) ?_
                exact mp_case_24 hL q1 q5 bb mm vs ln wd hln hwd
            · skip
              by_cases c87 : z30.toInt ≤ 25
              · skip
                have c88 : z30.toInt = 25 := by omega
                refine mp_tabIn hF (dflt := 2186) (lo := 0) (hi := 59) (offs := mp_loffs) (len := 255) (off := 940) (tgt := 973) (by decide +kernel) (by omega) (by omega) (by rw [c88]; rfl) (by decide) ?_
                exact mp_case_25 hL q1 q5 bb mm vs ln wd hln hwd
              · skip
                have c89 : z30.toInt = 26 := by omega
                refine mp_tabIn hF (dflt := 2186) (lo := 0) (hi := 59) (offs := mp_loffs) (len := 255) (off := 963) (tgt := 996) (by decide +kernel) (by omega) (by omega) (by rw [c89]; rfl) (by decide) ?_
                exact mp_case_26 hL q1 q5 bb mm vs ln wd hln hwd
          · skip
            by_cases c90 : z30.toInt ≤ 28
            · skip
              by_cases c91 : z30.toInt ≤ 27
              · skip
                have c92 : z30.toInt = 27 := by omega
                refine mp_tabIn hF (dflt := 2186) (lo := 0) (hi := 59) (offs := mp_loffs) (len := 255) (off := 976) (tgt := 1009) (by decide +kernel) (by omega) (by omega) (by rw [c92]; rfl) (by decide) ?_
                exact mp_case_27 hL q1 q5 bb mm vs ln wd hln hwd
              · skip
                have c93 : z30.toInt = 28 := by omega
                refine mp_tabIn hF (dflt := 2186) (lo := 0) (hi := 59) (offs := mp_loffs) (len := 255) (off := 999) (tgt := 1032) (by decide +kernel) (by omega) (by omega) (by rw [c93]; rfl) (by decide) ?_
                exact mp_case_28 hL q1 q5 bb mm vs ln wd hln hwd
            · skip
              have c94 : z30.toInt = 29 := by omega
              refine mp_tabIn hF (dflt := 2186) (lo := 0) (hi := 59) (offs := mp_loffs) (len := 255) (off := 1032) (tgt := 1065) (by decide +kernel) (by omega) (by omega) (by rw [c94]; rfl) (by decide) ?_
              exact mp_case_29 hL q1 q5 bb mm vs ln wd hln hwd
    · skip
      by_cases c95 : z30.toInt ≤ 44
      · skip
        by_cases c96 : z30.toInt ≤ 37
        · skip
          by_cases c97 : z30.toInt ≤ 33
          · skip
            by_cases c98 : z30.toInt ≤ 31
            · skip
              by_cases c99 : z30.toInt ≤ 30
              · skip
                have c100 : z30.toInt = 30 := by omega
                refine mp_tabIn hF (dflt := 2186) (lo := 0) (hi := 59) (offs := mp_loffs) (len := 255) (off := 1075) (tgt := 1108) (by decide +kernel) (by omega) (by omega) (by rw [c100]; rfl) (by decide) ?_
                exact mp_case_30 hL q1 q5 bb mm vs ln wd hln hwd
              · skip
                have c101 : z30.toInt = 31 := by omega
                refine mp_tabIn hF (dflt := 2186) (lo := 0) (hi := 59) (offs := mp_loffs) (len := 255) (off := 1108) (tgt := 1141) (by decide +kernel) (by omega) (by omega) (by rw [c101]; rfl) (by decide) ?_
                exact mp_case_31 hL q1 q5 bb mm vs ln wd hln hwd
            · skip
              by_cases c102 : z30.toInt ≤ 32
              · skip
                have c103 : z30.toInt = 32 := by omega
                refine mp_tabIn hF (dflt := 2186) (lo := 0) (hi := 59) (offs := mp_loffs) (len := 255) (off := 1141) (tgt := 1174) (by decide +kernel) (by omega) (by omega) (by rw [c103]; rfl) (by decide) ?_
                exact mp_case_32 hL q1 q5 bb mm vs ln wd hln hwd
              · skip
                have c104 : z30.toInt = 33 := by omega
                refine mp_tabIn hF (dflt := 2186) (lo := 0) (hi := 59) (offs := mp_loffs) (len := 255) (off := 1175) (tgt := 1208) (by decide +kernel) (by omega) (by omega) (by rw [c104]; rfl) (by decide) ?_
                exact mp_case_33 hL q1 q5 bb mm vs ln wd hln hwd
          · skip
            by_cases c105 : z30.toInt ≤ 35
            · skip
              by_cases c106 : z30.toInt ≤ 34
              · skip
                have c107 : z30.toInt = 34 := by omega
                refine mp_tabIn hF (dflt := 2186) (lo := 0) (hi := 59) (offs := mp_loffs) (len := 255) (off := 1218) (tgt := 1251) (by decide +kernel) (by omega) (by omega) (by rw [c107]; rfl) (by decide) ?_
                exact mp_case_34 hL q1 q5 bb mm vs ln wd hln hwd
              · skip
                have c108 : z30.toInt = 35 := by omega
                refine mp_tabIn hF (dflt := 2186) (lo := 0) (hi := 59) (offs := mp_loffs) (len := 255) (off := 1261) (tgt := 1294) (by decide +kernel) (by omega) (by omega) (by rw [c108]; rfl) (by decide) ?_
                exact mp_case_35 hL q1 q5 bb mm vs ln wd hln hwd
            · skip
              by_cases c109 : z30.toInt ≤ 36
              · skip
                have c110 : z30.toInt = 36 := by omega
                refine mp_tabIn hF (dflt := 2186) (lo := 0) (hi := 59) (offs := mp_loffs) (len := 255) (off := 1294) (tgt := 1327) (by decide +kernel) (by omega) (by omega) (by rw [c110]; rfl) (by decide) ?_
                exact mp_case_36 hL q1 q5 bb mm vs ln wd hln hwd
              · skip
                have c111 : z30.toInt = 37 := by omega
                refine mp_tabIn hF (dflt := 2186) (lo := 0) (hi := 59) (offs := mp_loffs) (len := 255) (off := 1307) (tgt := 1340) (by decide +kernel) (by omega) (by omega) (by rw [c111]; rfl) (by decide) ?_
                exact mp_case_37 hL q1 q5 bb mm vs ln wd hln hwd
        · skip
          by_cases c112 : z30.toInt ≤ 41
          · skip
            by_cases c113 : z30.toInt ≤ 39
            · skip
              by_cases c114 : z30.toInt ≤ 38
              · skip
                have c115 : z30.toInt = 38 := by omega
                refine mp_tabIn hF (dflt := 2186) (lo := 0) (hi := 59) (offs := mp_loffs) (len := 255) (off := 1330) (tgt := 1363) (by decide +kernel) (by omega) (by omega) (by rw [c115]; rfl) (by decide) ?_
                exact mp_case_38 hL q1 q5 bb mm vs ln wd hln hwd
              · skip
                have c116 : z30.toInt = 39 := by omega
                refine mp_tabIn hF (dflt := 2186) (lo := 0) (hi := 59) (offs := mp_loffs) (len := 255) (off := 1363) (tgt := 1396) (by decide +kernel) (by omega) (by omega) (by rw [c116]; rfl) (by decide) ?_
                exact mp_case_39 hL q1 q5 bb mm vs ln wd hln hwd
            · skip
              by_cases c117 : z30.toInt ≤ 40
              · skip
                have c118 : z30.toInt = 40 := by omega
                refine mp_tabIn hF (dflt := 2186) (lo := 0) (hi := 59) (offs := mp_loffs) (len := 255) (off := 1416) (tgt := 1449) (by decide +kernel) (by omega) (by omega) (by rw [c118]; rfl) (by decide) ?_
                exact mp_case_40 hL q1 q5 bb mm vs ln wd hln hwd
              · skip
                have c119 : z30.toInt = 41 := by omega
                refine mp_tabIn hF (dflt := 2186) (lo := 0) (hi := 59) (offs := mp_loffs) (len := 255) (off := 1449) (tgt := 1482) (by decide +kernel) (by omega) (by omega) (by rw [c119]; rfl) (by decide) ?_
                exact mp_case_41 hL q1 q5 bb mm vs ln wd hln hwd
          · skip
            by_cases c120 : z30.toInt ≤ 43
            · skip
              by_cases c121 : z30.toInt ≤ 42
              · skip
                have c122 : z30.toInt = 42 := by omega
                refine mp_tabIn hF (dflt := 2186) (lo := 0) (hi := 59) (offs := mp_loffs) (len := 255) (off := 1492) (tgt := 1525) (by decide +kernel) (by omega) (by omega) (by rw [c122]; rfl) (by decide) ?_
                exact mp_case_42 hL q1 q5 bb mm vs ln wd hln hwd
              · skip
                have c123 : z30.toInt = 43 := by omega
                refine mp_tabIn hF (dflt := 2186) (lo := 0) (hi := 59) (offs := mp_loffs) (len := 255) (off := 1525) (tgt := 1558) (by decide +kernel) (by omega) (by omega) (by rw [c123]; rfl) (by decide) ?_
                exact mp_case_43 hL q1 q5 bb mm vs ln wd hln hwd
            · skip
              have c124 : z30.toInt = 44 := by omega
              refine mp_tabIn hF (dflt := 2186) (lo := 0) (hi := 59) (offs := mp_loffs) (len := 255) (off := 1558) (tgt := 1591) (by decide +kernel) (by omega) (by omega) (by rw [c124]; rfl) (by decide) ?_
              exact mp_case_44 hL q1 q5 bb mm vs ln wd hln hwd
      · skip
        by_cases c125 : z30.toInt ≤ 52
        · skip
          by_cases c126 : z30.toInt ≤ 48
          · skip
            by_cases c127 : z30.toInt ≤ 46
            · skip
              by_cases c128 : z30.toInt ≤ 45
              · skip
                have c129 : z30.toInt = 45 := by omega
                refine mp_tabIn hF (dflt := 2186) (lo := 0) (hi := 59) (offs := mp_loffs) (len := 255) (off := 1591) (tgt := 1624) (by decide +kernel) (by omega) (by omega) (by rw [c129]; rfl) (by decide) ?_
                exact mp_case_45 hL q1 q5 bb mm vs ln wd hln hwd
              · skip
                have c130 : z30.toInt = 46 := by omega
                refine mp_tabIn hF (dflt := 2186) (lo := 0) (hi := 59) (offs := mp_loffs) (len := 255) (off := 1634) (tgt := 1667) (by decide +kernel) (by omega) (by omega) (by rw [c130]; rfl) (by decide) ?_
                exact mp_case_46 hL q1 q5 bb mm vs ln wd hln hwd
            · skip
              by_cases c131 : z30.toInt ≤ 47
              · skip
                have c132 : z30.toInt = 47 := by omega
                refine mp_tabIn hF (dflt := 2186) (lo := 0) (hi := 59) (offs := mp_loffs) (len := 255) (off := 1657) (tgt := 1690) (by decide +kernel) (by omega) (by omega) (by rw [c132]; rfl) (by decide) ?_
                exact mp_case_47 hL q1 q5 bb mm vs ln wd hln hwd
              · skip
                have c133 : z30.toInt = 48 := by omega
                refine mp_tabIn hF (dflt := 2186) (lo := 0) (hi := 59) (offs := mp_loffs) (len := 255) (off := 1680) (tgt := 1713) (by decide +kernel) (by omega) (by omega) (by rw [c133]; rfl) (by decide) ?_
                exact mp_case_48 hL q1 q5 bb mm vs ln wd hln hwd
          · skip
            by_cases c134 : z30.toInt ≤ 50
            · skip
              by_cases c135 : z30.toInt ≤ 49
              · skip
                have c136 : z30.toInt = 49 := by omega
                refine mp_tabIn hF (dflt := 2186) (lo := 0) (hi := 59) (offs := mp_loffs) (len := 255) (off := 1723) (tgt := 1756) (by decide +kernel) (by omega) (by omega) (by rw [c136]; rfl) (by decide) ?_
                exact mp_case_49 hL q1 q5 bb mm vs ln wd hln hwd
              · skip
                have c137 : z30.toInt = 50 := by omega
                refine mp_tabIn hF (dflt := 2186) (lo := 0) (hi := 59) (offs := mp_loffs) (len := 255) (off := 1766) (tgt := 1799) (by decide +kernel) (by omega) (by omega) (by rw [c137]; rfl) (by decide) ?_
                exact mp_case_50 hL q1 q5 bb mm vs ln wd hln hwd
            · skip
              by_cases c138 : z30.toInt ≤ 51
              · skip
                have c139 : z30.toInt = 51 := by omega
                refine mp_tabIn hF (dflt := 2186) (lo := 0) (hi := 59) (offs := mp_loffs) (len := 255) (off := 1819) (tgt := 1852) (by decide +kernel) (by omega) (by omega) (by rw [c139]; rfl) (by decide) ?_
                exact mp_case_51 hL q1 q5 bb mm vs ln wd hln hwd
              · skip
                have c140 : z30.toInt = 52 := by omega
                refine mp_tabIn hF (dflt := 2186) (lo := 0) (hi := 59) (offs := mp_loffs) (len := 255) (off := 1862) (tgt := 1895) (by decide +kernel) (by omega) (by omega) (by rw [c140]; rfl) (by decide) ?_
                exact mp_case_52 hL q1 q5 bb mm vs ln wd hln hwd
        · skip
          by_cases c141 : z30.toInt ≤ 56
          · skip
            by_cases c142 : z30.toInt ≤ 54
            · skip
              by_cases c143 : z30.toInt ≤ 53
              · skip
                have c144 : z30.toInt = 53 := by omega
                refine mp_tabIn hF (dflt := 2186) (lo := 0) (hi := 59) (offs := mp_loffs) (len := 255) (off := 1905) (tgt := 1938) (by decide +kernel) (by omega) (by omega) (by rw [c144]; rfl) (by decide) ?_
                exact mp_case_53 hL q1 q5 bb mm vs ln wd hln hwd
              · skip
                have c145 : z30.toInt = 54 := by omega
                refine mp_tabIn hF (dflt := 2186) (lo := 0) (hi := 59) (offs := mp_loffs) (len := 255) (off := 1938) (tgt := 1971) (by decide +kernel) (by omega) (by omega) (by rw [c145]; rfl) (by decide) ?_
                exact mp_case_54 hL q1 q5 bb mm vs ln wd hln hwd
            · skip
              by_cases c146 : z30.toInt ≤ 55
              · skip
                have c147 : z30.toInt = 55 := by omega
                refine mp_tabIn hF (dflt := 2186) (lo := 0) (hi := 59) (offs := mp_loffs) (len := 255) (off := 1961) (tgt := 1994) (by decide +kernel) (by omega) (by omega) (by rw [c147]; rfl) (by decide) ?_
                exact mp_case_55 hL q1 q5 bb mm vs ln wd hln hwd
              · skip
                have c148 : z30.toInt = 56 := by omega
                refine mp_tabIn hF (dflt := 2186) (lo := 0) (hi := 59) (offs := mp_loffs) (len := 255) (off := 1984) (tgt := 2017) (by decide +kernel) (by omega) (by omega) (by rw [c148]; rfl) (by decide) ?_
                exact mp_case_56 hL q1 q5 bb mm vs ln wd hln hwd
          · skip
            by_cases c149 : z30.toInt ≤ 58
            · skip
              by_cases c150 : z30.toInt ≤ 57
              · skip
                have c151 : z30.toInt = 57 := by omega
                refine mp_tabIn hF (dflt := 2186) (lo := 0) (hi := 59) (offs := mp_loffs) (len := 255) (off := 2007) (tgt := 2040) (by decide +kernel) (by omega) (by omega) (by rw [c151]; rfl) (by decide) ?_
                exact mp_case_57 hL q1 q5 bb mm vs ln wd hln hwd
              · skip
                have c152 : z30.toInt = 58 := by omega
                refine mp_tabIn hF (dflt := 2186) (lo := 0) (hi := 59) (offs := mp_loffs) (len := 255) (off := 2050) (tgt := 2083) (by decide +kernel) (by omega) (by omega) (by rw [c152]; rfl) (by decide) ?_
                exact mp_case_58 hL q1 q5 bb mm vs ln wd hln hwd
            · skip
              have c153 : z30.toInt = 59 := by omega
              refine mp_tabIn hF (dflt := 2186) (lo := 0) (hi := 59) (offs := mp_loffs) (len := 255) (off := 2123) (tgt := 2156) (by decide +kernel) (by omega) (by omega) (by rw [c153]; rfl) (by decide) ?_
              exact mp_case_59 hL q1 q5 bb mm vs ln wd hln hwd
