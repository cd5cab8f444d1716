set_option maxHeartbeats 4000000 in
set_option maxRecDepth 100000 in
theorem k_Told (E : mp_E) (h0 : Nat) : mp_Ct E yX7_init cX7_init 1 none 1 12 186 12 [.ref h0] [(h0, .inr (7, [.int 0, .int 0, .int 0, .int 0, .int 0, .int 0, .null, .null, .null, .null, .null, .null, .null, .null, .null, .null, .null, .null]))] (fun v w' => v = none ∧ ∃ b : Nat → Nat, b 0 = h0 ∧ w' = [(mp_ob7 h0 0 0 0 0 0 0 (b 1) (b 2) (b 3) (b 4) (b 5) (b 6) (b 7) (b 8) (b 9) (b 10) (b 11) (b 12)), (mp_arI E (b 1) 0 36 (fun _ => 0)), (mp_arL E (b 2) 12 (fun _ => 0)), (mp_arI E (b 3) 0 6 (fun _ => 0)), (mp_arI E (b 4) 0 6 (fun _ => 0)), (mp_arI E (b 5) 0 6 (fun _ => 0)), (mp_arI E (b 6) 0 10 (fun _ => 0)), (mp_arI E (b 7) 0 10 (fun _ => 0)), (mp_arI E (b 8) 0 10 (fun _ => 0)), (mp_arI E (b 9) 0 10 (fun _ => 0)), (mp_arI E (b 10) 0 10 (fun _ => 0)), (mp_arI E (b 11) 0 10 (fun _ => 0)), (mp_arI E (b 12) 0 60 (fun _ => 0))]) := by
  refine mp_met true (by decide) (by decide) (Nat.le_of_ble_eq_true rfl) (fun X hF hQ => ?_)
  have hF : mp_F E X (RX7, cX7_init, 1, (1, 12, 186, 12), none, true) := hF
  show mp_W E X 1 0 [(0, .ref h0)] [] [(h0, .inr (7, [.int 0, .int 0, .int 0, .int 0, .int 0, .int 0, .null, .null, .null, .null, .null, .null, .null, .null, .null, .null, .null, .null]))] 0 0
  refine mp_run mp_k_cX7_init_ok hF mp_tabX7_ok [mp_i (.aload_n 0)] (by decide +kernel) ?_
  show mp_W E X 1 1 [(0, .ref h0)] [.ref h0] [(h0, .inr (7, [.int 0, .int 0, .int 0, .int 0, .int 0, .int 0, .null, .null, .null, .null, .null, .null, .null, .null, .null, .null, .null, .null]))] 0 0
  refine mp_objInit hF (idx := 3) (mp_gm (j := 1040) (by decide +kernel)) ⟨(Nat.le_of_ble_eq_true rfl), (Nat.le_of_ble_eq_true rfl)⟩ (by first | exact mp_fd_ok mp_k_cX7_init_ok (by decide +kernel) | decide +kernel) ?_
  show mp_W E X 1 4 [(0, .ref h0)] [] [(h0, .inr (7, [.int 0, .int 0, .int 0, .int 0, .int 0, .int 0, .null, .null, .null, .null, .null, .null, .null, .null, .null, .null, .null, .null]))] 0 0
  refine mp_run mp_k_cX7_init_ok hF mp_tabX7_ok [mp_i (.aload_n 0), mp_c (.bipush 36) 36, mp_h (.newarray .int) [36], mp_h (.putfield 9) [6, 0]] (by decide +kernel) ?_
  refine And.intro (by decide) (And.intro (Nat.le_of_ble_eq_true rfl) (And.intro (Nat.le_of_ble_eq_true rfl) (And.intro (by decide) ?_)))
  intro q1
  refine And.intro rfl (And.intro rfl (And.intro rfl (And.intro rfl (And.intro (Nat.le_of_ble_eq_true rfl) ?_))))
  let w1_ : va_W := [(h0, .inr (7, [.int 0, .int 0, .int 0, .int 0, .int 0, .int 0, .ref q1, .null, .null, .null, .null, .null, .null, .null, .null, .null, .null, .null])), (mp_arI E q1 0 36 (fun _ => 0))]
  show mp_W E X 1 12 [(0, .ref h0)] [] w1_ 1 36
  refine mp_run mp_k_cX7_init_ok hF mp_tabX7_ok [mp_i (.aload_n 0), mp_c (.bipush 12) 12, mp_h (.newarray .long) [12], mp_h (.putfield 15) [7, 0]] (by decide +kernel) ?_
  refine And.intro (by decide) (And.intro (Nat.le_of_ble_eq_true rfl) (And.intro (Nat.le_of_ble_eq_true rfl) (And.intro (by decide) ?_)))
  intro q2
  refine And.intro rfl (And.intro rfl (And.intro rfl (And.intro rfl (And.intro (Nat.le_of_ble_eq_true rfl) ?_))))
  let w2_ : va_W := [(h0, .inr (7, [.int 0, .int 0, .int 0, .int 0, .int 0, .int 0, .ref q1, .ref q2, .null, .null, .null, .null, .null, .null, .null, .null, .null, .null])), (mp_arI E q1 0 36 (fun _ => 0)), (mp_arL E q2 12 (fun _ => 0))]
  show mp_W E X 1 20 [(0, .ref h0)] [] w2_ 2 48
  refine mp_run mp_k_cX7_init_ok hF mp_tabX7_ok [mp_i (.aload_n 0), mp_c (.bipush 6) 6, mp_h (.newarray .int) [6], mp_h (.putfield 19) [8, 0]] (by decide +kernel) ?_
  refine And.intro (by decide) (And.intro (Nat.le_of_ble_eq_true rfl) (And.intro (Nat.le_of_ble_eq_true rfl) (And.intro (by decide) ?_)))
  intro q3
  refine And.intro rfl (And.intro rfl (And.intro rfl (And.intro rfl (And.intro (Nat.le_of_ble_eq_true rfl) ?_))))
  let w3_ : va_W := [(h0, .inr (7, [.int 0, .int 0, .int 0, .int 0, .int 0, .int 0, .ref q1, .ref q2, .ref q3, .null, .null, .null, .null, .null, .null, .null, .null, .null])), (mp_arI E q1 0 36 (fun _ => 0)), (mp_arL E q2 12 (fun _ => 0)), (mp_arI E q3 0 6 (fun _ => 0))]
  show mp_W E X 1 28 [(0, .ref h0)] [] w3_ 3 54
  refine mp_run mp_k_cX7_init_ok hF mp_tabX7_ok [mp_i (.aload_n 0), mp_c (.bipush 6) 6, mp_h (.newarray .int) [6], mp_h (.putfield 22) [9, 0]] (by decide +kernel) ?_
  refine And.intro (by decide) (And.intro (Nat.le_of_ble_eq_true rfl) (And.intro (Nat.le_of_ble_eq_true rfl) (And.intro (by decide) ?_)))
  intro q4
  refine And.intro rfl (And.intro rfl (And.intro rfl (And.intro rfl (And.intro (Nat.le_of_ble_eq_true rfl) ?_))))
  let w4_ : va_W := [(h0, .inr (7, [.int 0, .int 0, .int 0, .int 0, .int 0, .int 0, .ref q1, .ref q2, .ref q3, .ref q4, .null, .null, .null, .null, .null, .null, .null, .null])), (mp_arI E q1 0 36 (fun _ => 0)), (mp_arL E q2 12 (fun _ => 0)), (mp_arI E q3 0 6 (fun _ => 0)), (mp_arI E q4 0 6 (fun _ => 0))]
  show mp_W E X 1 36 [(0, .ref h0)] [] w4_ 4 60
  refine mp_run mp_k_cX7_init_ok hF mp_tabX7_ok [mp_i (.aload_n 0), mp_c (.bipush 6) 6, mp_h (.newarray .int) [6], mp_h (.putfield 25) [10, 0]] (by decide +kernel) ?_
  refine And.intro (by decide) (And.intro (Nat.le_of_ble_eq_true rfl) (And.intro (Nat.le_of_ble_eq_true rfl) (And.intro (by decide) ?_)))
  intro q5
  refine And.intro rfl (And.intro rfl (And.intro rfl (And.intro rfl (And.intro (Nat.le_of_ble_eq_true rfl) ?_))))
  let w5_ : va_W := [(h0, .inr (7, [.int 0, .int 0, .int 0, .int 0, .int 0, .int 0, .ref q1, .ref q2, .ref q3, .ref q4, .ref q5, .null, .null, .null, .null, .null, .null, .null])), (mp_arI E q1 0 36 (fun _ => 0)), (mp_arL E q2 12 (fun _ => 0)), (mp_arI E q3 0 6 (fun _ => 0)), (mp_arI E q4 0 6 (fun _ => 0)), (mp_arI E q5 0 6 (fun _ => 0))]
  show mp_W E X 1 44 [(0, .ref h0)] [] w5_ 5 66
  refine mp_run mp_k_cX7_init_ok hF mp_tabX7_ok [mp_i (.aload_n 0), mp_c (.bipush 10) 10, mp_h (.newarray .int) [10], mp_h (.putfield 28) [11, 0]] (by decide +kernel) ?_
  refine And.intro (by decide) (And.intro (Nat.le_of_ble_eq_true rfl) (And.intro (Nat.le_of_ble_eq_true rfl) (And.intro (by decide) ?_)))
  intro q6
  refine And.intro rfl (And.intro rfl (And.intro rfl (And.intro rfl (And.intro (Nat.le_of_ble_eq_true rfl) ?_))))
  let w6_ : va_W := [(h0, .inr (7, [.int 0, .int 0, .int 0, .int 0, .int 0, .int 0, .ref q1, .ref q2, .ref q3, .ref q4, .ref q5, .ref q6, .null, .null, .null, .null, .null, .null])), (mp_arI E q1 0 36 (fun _ => 0)), (mp_arL E q2 12 (fun _ => 0)), (mp_arI E q3 0 6 (fun _ => 0)), (mp_arI E q4 0 6 (fun _ => 0)), (mp_arI E q5 0 6 (fun _ => 0)), (mp_arI E q6 0 10 (fun _ => 0))]
  show mp_W E X 1 52 [(0, .ref h0)] [] w6_ 6 76
  refine mp_run mp_k_cX7_init_ok hF mp_tabX7_ok [mp_i (.aload_n 0), mp_c (.bipush 10) 10, mp_h (.newarray .int) [10], mp_h (.putfield 31) [12, 0]] (by decide +kernel) ?_
  refine And.intro (by decide) (And.intro (Nat.le_of_ble_eq_true rfl) (And.intro (Nat.le_of_ble_eq_true rfl) (And.intro (by decide) ?_)))
  intro q7
  refine And.intro rfl (And.intro rfl (And.intro rfl (And.intro rfl (And.intro (Nat.le_of_ble_eq_true rfl) ?_))))
  let w7_ : va_W := [(h0, .inr (7, [.int 0, .int 0, .int 0, .int 0, .int 0, .int 0, .ref q1, .ref q2, .ref q3, .ref q4, .ref q5, .ref q6, .ref q7, .null, .null, .null, .null, .null])), (mp_arI E q1 0 36 (fun _ => 0)), (mp_arL E q2 12 (fun _ => 0)), (mp_arI E q3 0 6 (fun _ => 0)), (mp_arI E q4 0 6 (fun _ => 0)), (mp_arI E q5 0 6 (fun _ => 0)), (mp_arI E q6 0 10 (fun _ => 0)), (mp_arI E q7 0 10 (fun _ => 0))]
  show mp_W E X 1 60 [(0, .ref h0)] [] w7_ 7 86
  refine mp_run mp_k_cX7_init_ok hF mp_tabX7_ok [mp_i (.aload_n 0), mp_c (.bipush 10) 10, mp_h (.newarray .int) [10], mp_h (.putfield 34) [13, 0]] (by decide +kernel) ?_
  refine And.intro (by decide) (And.intro (Nat.le_of_ble_eq_true rfl) (And.intro (Nat.le_of_ble_eq_true rfl) (And.intro (by decide) ?_)))
  intro q8
  refine And.intro rfl (And.intro rfl (And.intro rfl (And.intro rfl (And.intro (Nat.le_of_ble_eq_true rfl) ?_))))
  let w8_ : va_W := [(h0, .inr (7, [.int 0, .int 0, .int 0, .int 0, .int 0, .int 0, .ref q1, .ref q2, .ref q3, .ref q4, .ref q5, .ref q6, .ref q7, .ref q8, .null, .null, .null, .null])), (mp_arI E q1 0 36 (fun _ => 0)), (mp_arL E q2 12 (fun _ => 0)), (mp_arI E q3 0 6 (fun _ => 0)), (mp_arI E q4 0 6 (fun _ => 0)), (mp_arI E q5 0 6 (fun _ => 0)), (mp_arI E q6 0 10 (fun _ => 0)), (mp_arI E q7 0 10 (fun _ => 0)), (mp_arI E q8 0 10 (fun _ => 0))]
  show mp_W E X 1 68 [(0, .ref h0)] [] w8_ 8 96
  refine mp_run mp_k_cX7_init_ok hF mp_tabX7_ok [mp_i (.aload_n 0), mp_c (.bipush 10) 10, mp_h (.newarray .int) [10], mp_h (.putfield 37) [14, 0]] (by decide +kernel) ?_
  refine And.intro (by decide) (And.intro (Nat.le_of_ble_eq_true rfl) (And.intro (Nat.le_of_ble_eq_true rfl) (And.intro (by decide) ?_)))
  intro q9
  refine And.intro rfl (And.intro rfl (And.intro rfl (And.intro rfl (And.intro (Nat.le_of_ble_eq_true rfl) ?_))))
  let w9_ : va_W := [(h0, .inr (7, [.int 0, .int 0, .int 0, .int 0, .int 0, .int 0, .ref q1, .ref q2, .ref q3, .ref q4, .ref q5, .ref q6, .ref q7, .ref q8, .ref q9, .null, .null, .null])), (mp_arI E q1 0 36 (fun _ => 0)), (mp_arL E q2 12 (fun _ => 0)), (mp_arI E q3 0 6 (fun _ => 0)), (mp_arI E q4 0 6 (fun _ => 0)), (mp_arI E q5 0 6 (fun _ => 0)), (mp_arI E q6 0 10 (fun _ => 0)), (mp_arI E q7 0 10 (fun _ => 0)), (mp_arI E q8 0 10 (fun _ => 0)), (mp_arI E q9 0 10 (fun _ => 0))]
  show mp_W E X 1 76 [(0, .ref h0)] [] w9_ 9 106
  refine mp_run mp_k_cX7_init_ok hF mp_tabX7_ok [mp_i (.aload_n 0), mp_c (.bipush 10) 10, mp_h (.newarray .int) [10], mp_h (.putfield 40) [15, 0]] (by decide +kernel) ?_
  refine And.intro (by decide) (And.intro (Nat.le_of_ble_eq_true rfl) (And.intro (Nat.le_of_ble_eq_true rfl) (And.intro (by decide) ?_)))
  intro q10
  refine And.intro rfl (And.intro rfl (And.intro rfl (And.intro rfl (And.intro (Nat.le_of_ble_eq_true rfl) ?_))))
  let w10_ : va_W := [(h0, .inr (7, [.int 0, .int 0, .int 0, .int 0, .int 0, .int 0, .ref q1, .ref q2, .ref q3, .ref q4, .ref q5, .ref q6, .ref q7, .ref q8, .ref q9, .ref q10, .null, .null])), (mp_arI E q1 0 36 (fun _ => 0)), (mp_arL E q2 12 (fun _ => 0)), (mp_arI E q3 0 6 (fun _ => 0)), (mp_arI E q4 0 6 (fun _ => 0)), (mp_arI E q5 0 6 (fun _ => 0)), (mp_arI E q6 0 10 (fun _ => 0)), (mp_arI E q7 0 10 (fun _ => 0)), (mp_arI E q8 0 10 (fun _ => 0)), (mp_arI E q9 0 10 (fun _ => 0)), (mp_arI E q10 0 10 (fun _ => 0))]
  show mp_W E X 1 84 [(0, .ref h0)] [] w10_ 10 116
  refine mp_run mp_k_cX7_init_ok hF mp_tabX7_ok [mp_i (.aload_n 0), mp_c (.bipush 10) 10, mp_h (.newarray .int) [10], mp_h (.putfield 43) [16, 0]] (by decide +kernel) ?_
  refine And.intro (by decide) (And.intro (Nat.le_of_ble_eq_true rfl) (And.intro (Nat.le_of_ble_eq_true rfl) (And.intro (by decide) ?_)))
  intro q11
  refine And.intro rfl (And.intro rfl (And.intro rfl (And.intro rfl (And.intro (Nat.le_of_ble_eq_true rfl) ?_))))
  let w11_ : va_W := [(h0, .inr (7, [.int 0, .int 0, .int 0, .int 0, .int 0, .int 0, .ref q1, .ref q2, .ref q3, .ref q4, .ref q5, .ref q6, .ref q7, .ref q8, .ref q9, .ref q10, .ref q11, .null])), (mp_arI E q1 0 36 (fun _ => 0)), (mp_arL E q2 12 (fun _ => 0)), (mp_arI E q3 0 6 (fun _ => 0)), (mp_arI E q4 0 6 (fun _ => 0)), (mp_arI E q5 0 6 (fun _ => 0)), (mp_arI E q6 0 10 (fun _ => 0)), (mp_arI E q7 0 10 (fun _ => 0)), (mp_arI E q8 0 10 (fun _ => 0)), (mp_arI E q9 0 10 (fun _ => 0)), (mp_arI E q10 0 10 (fun _ => 0)), (mp_arI E q11 0 10 (fun _ => 0))]
  show mp_W E X 1 92 [(0, .ref h0)] [] w11_ 11 126
  refine mp_run mp_k_cX7_init_ok hF mp_tabX7_ok [mp_i (.aload_n 0), mp_c (.bipush 60) 60, mp_h (.newarray .int) [60], mp_h (.putfield 46) [17, 0]] (by decide +kernel) ?_
  refine And.intro (by decide) (And.intro (Nat.le_of_ble_eq_true rfl) (And.intro (Nat.le_of_ble_eq_true rfl) (And.intro (by decide) ?_)))
  intro q12
  refine And.intro rfl (And.intro rfl (And.intro rfl (And.intro rfl (And.intro (Nat.le_of_ble_eq_true rfl) ?_))))
  let w12_ : va_W := [(mp_ob7 h0 0 0 0 0 0 0 q1 q2 q3 q4 q5 q6 q7 q8 q9 q10 q11 q12), (mp_arI E q1 0 36 (fun _ => 0)), (mp_arL E q2 12 (fun _ => 0)), (mp_arI E q3 0 6 (fun _ => 0)), (mp_arI E q4 0 6 (fun _ => 0)), (mp_arI E q5 0 6 (fun _ => 0)), (mp_arI E q6 0 10 (fun _ => 0)), (mp_arI E q7 0 10 (fun _ => 0)), (mp_arI E q8 0 10 (fun _ => 0)), (mp_arI E q9 0 10 (fun _ => 0)), (mp_arI E q10 0 10 (fun _ => 0)), (mp_arI E q11 0 10 (fun _ => 0)), (mp_arI E q12 0 60 (fun _ => 0))]
  show mp_W E X 1 100 [(0, .ref h0)] [] w12_ 12 186
  exact mp_vret hF hQ rfl (Nat.le_of_ble_eq_true rfl) (Nat.le_of_ble_eq_true rfl) [0, 1, 2, 3, 4, 5, 6, 7, 8, 9, 10, 11, 12] (w' := w12_) rfl rfl ⟨rfl, fun k => ([h0, q1, q2, q3, q4, q5, q6, q7, q8, q9, q10, q11, q12] : List Nat).getD k 0, rfl, rfl⟩ (by first | exact mp_fd_ok mp_k_cX7_init_ok (by decide +kernel) | decide +kernel)

set_option maxHeartbeats 4000000 in
set_option maxRecDepth 100000 in
theorem k_Ledger (E : mp_E) (h0 : Nat) : mp_Ct E yX1_init cX1_init 1 none 1 2 39 12 [.ref h0] [(h0, .inr (1, [.null, .int 0, .int 0, .null]))] (fun v w' => v = none ∧ ∃ b : Nat → Nat, b 0 = h0 ∧ w' = [(mp_ob1 h0 (b 1) 0 0 (b 2)), (mp_arI E (b 1) 0 36 (fun _ => 0)), (mp_arI E (b 2) 0 3 (fun _ => 0))]) := by
  refine mp_met true (by decide) (by decide) (Nat.le_of_ble_eq_true rfl) (fun X hF hQ => ?_)
  have hF : mp_F E X (RX1, cX1_init, 1, (1, 2, 39, 12), none, true) := hF
  show mp_W E X 1 0 [(0, .ref h0)] [] [(h0, .inr (1, [.null, .int 0, .int 0, .null]))] 0 0
  refine mp_run mp_k_cX1_init_ok hF mp_tabX1_ok [mp_i (.aload_n 0)] (by decide +kernel) ?_
  show mp_W E X 1 1 [(0, .ref h0)] [.ref h0] [(h0, .inr (1, [.null, .int 0, .int 0, .null]))] 0 0
  refine mp_objInit hF (idx := 3) (mp_gm (j := 1234) (by decide +kernel)) ⟨(Nat.le_of_ble_eq_true rfl), (Nat.le_of_ble_eq_true rfl)⟩ (by first | exact mp_fd_ok mp_k_cX1_init_ok (by decide +kernel) | decide +kernel) ?_
  show mp_W E X 1 4 [(0, .ref h0)] [] [(h0, .inr (1, [.null, .int 0, .int 0, .null]))] 0 0
  refine mp_run mp_k_cX1_init_ok hF mp_tabX1_ok [mp_i (.aload_n 0), mp_c (.bipush 36) 36, mp_h (.newarray .int) [36], mp_h (.putfield 9) [5, 0]] (by decide +kernel) ?_
  refine And.intro (by decide) (And.intro (Nat.le_of_ble_eq_true rfl) (And.intro (Nat.le_of_ble_eq_true rfl) (And.intro (by decide) ?_)))
  intro q1
  refine And.intro rfl (And.intro rfl (And.intro rfl (And.intro rfl (And.intro (Nat.le_of_ble_eq_true rfl) ?_))))
  show mp_W E X 1 12 [(0, .ref h0)] [] [(h0, .inr (1, [.ref q1, .int 0, .int 0, .null])), (mp_arI E q1 0 36 (fun _ => 0))] 1 36
  refine mp_run mp_k_cX1_init_ok hF mp_tabX1_ok [mp_i (.aload_n 0), mp_c (.iconst 3) 3, mp_h (.newarray .int) [3], mp_h (.putfield 15) [8, 0]] (by decide +kernel) ?_
  refine And.intro (by decide) (And.intro (Nat.le_of_ble_eq_true rfl) (And.intro (Nat.le_of_ble_eq_true rfl) (And.intro (by decide) ?_)))
  intro q2
  refine And.intro rfl (And.intro rfl (And.intro rfl (And.intro rfl (And.intro (Nat.le_of_ble_eq_true rfl) ?_))))
  show mp_W E X 1 19 [(0, .ref h0)] [] [(mp_ob1 h0 q1 0 0 q2), (mp_arI E q1 0 36 (fun _ => 0)), (mp_arI E q2 0 3 (fun _ => 0))] 2 39
  exact mp_vret hF hQ rfl (Nat.le_of_ble_eq_true rfl) (Nat.le_of_ble_eq_true rfl) [0, 1, 2] (w' := [(mp_ob1 h0 q1 0 0 q2), (mp_arI E q1 0 36 (fun _ => 0)), (mp_arI E q2 0 3 (fun _ => 0))]) rfl rfl ⟨rfl, fun k => ([h0, q1, q2] : List Nat).getD k 0, rfl, rfl⟩ (by first | exact mp_fd_ok mp_k_cX1_init_ok (by decide +kernel) | decide +kernel)

set_option maxHeartbeats 4000000 in
set_option maxRecDepth 100000 in
theorem k_Planner (E : mp_E) (h0 : Nat) : mp_Ct E yX2_init cX2_init 1 none 1 5 1092 12 [.ref h0] [(h0, .inr (2, [.int 0, .int 0, .int 0, .int 0, .null, .null, .null, .null, .null, .int 0, .int 0]))] (fun v w' => v = none ∧ ∃ b : Nat → Nat, b 0 = h0 ∧ w' = [(mp_ob2 h0 0 0 0 0 (b 1) (b 2) (b 3) (b 4) (b 5) 0 0), (mp_arI E (b 1) 0 432 (fun _ => 0)), (mp_arI E (b 2) 0 432 (fun _ => 0)), (mp_arI E (b 3) 0 72 (fun _ => 0)), (mp_arI E (b 4) 0 78 (fun _ => 0)), (mp_arL E (b 5) 78 (fun _ => 0))]) := by
  refine mp_met true (by decide) (by decide) (Nat.le_of_ble_eq_true rfl) (fun X hF hQ => ?_)
  have hF : mp_F E X (RX2, cX2_init, 1, (1, 5, 1092, 12), none, true) := hF
  show mp_W E X 1 0 [(0, .ref h0)] [] [(h0, .inr (2, [.int 0, .int 0, .int 0, .int 0, .null, .null, .null, .null, .null, .int 0, .int 0]))] 0 0
  refine mp_run mp_k_cX2_init_ok hF mp_tabX2_ok [mp_i (.aload_n 0)] (by decide +kernel) ?_
  show mp_W E X 1 1 [(0, .ref h0)] [.ref h0] [(h0, .inr (2, [.int 0, .int 0, .int 0, .int 0, .null, .null, .null, .null, .null, .int 0, .int 0]))] 0 0
  refine mp_objInit hF (idx := 3) (mp_gm (j := 2015) (by decide +kernel)) ⟨(Nat.le_of_ble_eq_true rfl), (Nat.le_of_ble_eq_true rfl)⟩ (by first | exact mp_fd_ok mp_k_cX2_init_ok (by decide +kernel) | decide +kernel) ?_
  show mp_W E X 1 4 [(0, .ref h0)] [] [(h0, .inr (2, [.int 0, .int 0, .int 0, .int 0, .null, .null, .null, .null, .null, .int 0, .int 0]))] 0 0
  refine mp_run mp_k_cX2_init_ok hF mp_tabX2_ok [mp_i (.aload_n 0), mp_c (.sipush 432) 432, mp_h (.newarray .int) [432], mp_h (.putfield 11) [11, 0]] (by decide +kernel) ?_
  refine And.intro (by decide) (And.intro (Nat.le_of_ble_eq_true rfl) (And.intro (Nat.le_of_ble_eq_true rfl) (And.intro (by decide) ?_)))
  intro q1
  refine And.intro rfl (And.intro rfl (And.intro rfl (And.intro rfl (And.intro (Nat.le_of_ble_eq_true rfl) ?_))))
  show mp_W E X 1 13 [(0, .ref h0)] [] [(h0, .inr (2, [.int 0, .int 0, .int 0, .int 0, .ref q1, .null, .null, .null, .null, .int 0, .int 0])), (mp_arI E q1 0 432 (fun _ => 0))] 1 432
  refine mp_run mp_k_cX2_init_ok hF mp_tabX2_ok [mp_i (.aload_n 0), mp_c (.sipush 432) 432, mp_h (.newarray .int) [432], mp_h (.putfield 15) [12, 0]] (by decide +kernel) ?_
  refine And.intro (by decide) (And.intro (Nat.le_of_ble_eq_true rfl) (And.intro (Nat.le_of_ble_eq_true rfl) (And.intro (by decide) ?_)))
  intro q2
  refine And.intro rfl (And.intro rfl (And.intro rfl (And.intro rfl (And.intro (Nat.le_of_ble_eq_true rfl) ?_))))
  let w1_ : va_W := [(h0, .inr (2, [.int 0, .int 0, .int 0, .int 0, .ref q1, .ref q2, .null, .null, .null, .int 0, .int 0])), (mp_arI E q1 0 432 (fun _ => 0)), (mp_arI E q2 0 432 (fun _ => 0))]
  show mp_W E X 1 22 [(0, .ref h0)] [] w1_ 2 864
  refine mp_run mp_k_cX2_init_ok hF mp_tabX2_ok [mp_i (.aload_n 0), mp_c (.bipush 72) 72, mp_h (.newarray .int) [72], mp_h (.putfield 18) [13, 0]] (by decide +kernel) ?_
  refine And.intro (by decide) (And.intro (Nat.le_of_ble_eq_true rfl) (And.intro (Nat.le_of_ble_eq_true rfl) (And.intro (by decide) ?_)))
  intro q3
  refine And.intro rfl (And.intro rfl (And.intro rfl (And.intro rfl (And.intro (Nat.le_of_ble_eq_true rfl) ?_))))
  let w2_ : va_W := [(h0, .inr (2, [.int 0, .int 0, .int 0, .int 0, .ref q1, .ref q2, .ref q3, .null, .null, .int 0, .int 0])), (mp_arI E q1 0 432 (fun _ => 0)), (mp_arI E q2 0 432 (fun _ => 0)), (mp_arI E q3 0 72 (fun _ => 0))]
  show mp_W E X 1 30 [(0, .ref h0)] [] w2_ 3 936
  refine mp_run mp_k_cX2_init_ok hF mp_tabX2_ok [mp_i (.aload_n 0), mp_c (.bipush 78) 78, mp_h (.newarray .int) [78], mp_h (.putfield 21) [14, 0]] (by decide +kernel) ?_
  refine And.intro (by decide) (And.intro (Nat.le_of_ble_eq_true rfl) (And.intro (Nat.le_of_ble_eq_true rfl) (And.intro (by decide) ?_)))
  intro q4
  refine And.intro rfl (And.intro rfl (And.intro rfl (And.intro rfl (And.intro (Nat.le_of_ble_eq_true rfl) ?_))))
  let w3_ : va_W := [(h0, .inr (2, [.int 0, .int 0, .int 0, .int 0, .ref q1, .ref q2, .ref q3, .ref q4, .null, .int 0, .int 0])), (mp_arI E q1 0 432 (fun _ => 0)), (mp_arI E q2 0 432 (fun _ => 0)), (mp_arI E q3 0 72 (fun _ => 0)), (mp_arI E q4 0 78 (fun _ => 0))]
  show mp_W E X 1 38 [(0, .ref h0)] [] w3_ 4 1014
  refine mp_run mp_k_cX2_init_ok hF mp_tabX2_ok [mp_i (.aload_n 0), mp_c (.bipush 78) 78, mp_h (.newarray .long) [78], mp_h (.putfield 24) [15, 0]] (by decide +kernel) ?_
  refine And.intro (by decide) (And.intro (Nat.le_of_ble_eq_true rfl) (And.intro (Nat.le_of_ble_eq_true rfl) (And.intro (by decide) ?_)))
  intro q5
  refine And.intro rfl (And.intro rfl (And.intro rfl (And.intro rfl (And.intro (Nat.le_of_ble_eq_true rfl) ?_))))
  let w4_ : va_W := [(mp_ob2 h0 0 0 0 0 q1 q2 q3 q4 q5 0 0), (mp_arI E q1 0 432 (fun _ => 0)), (mp_arI E q2 0 432 (fun _ => 0)), (mp_arI E q3 0 72 (fun _ => 0)), (mp_arI E q4 0 78 (fun _ => 0)), (mp_arL E q5 78 (fun _ => 0))]
  show mp_W E X 1 46 [(0, .ref h0)] [] w4_ 5 1092
  exact mp_vret hF hQ rfl (Nat.le_of_ble_eq_true rfl) (Nat.le_of_ble_eq_true rfl) [0, 1, 2, 3, 4, 5] (w' := w4_) rfl rfl ⟨rfl, fun k => ([h0, q1, q2, q3, q4, q5] : List Nat).getD k 0, rfl, rfl⟩ (by first | exact mp_fd_ok mp_k_cX2_init_ok (by decide +kernel) | decide +kernel)

set_option maxHeartbeats 4000000 in
set_option maxRecDepth 100000 in
theorem k_Scales (E : mp_E) (h0 : Nat) : mp_Ct E yX4_init cX4_init 1 none 1 2 143 12 [.ref h0] [(h0, .inr (4, [.int 0, .int 0, .int 0, .null, .int 0, .int 0, .int 0, .int 0, .int 0, .null]))] (fun v w' => v = none ∧ ∃ b : Nat → Nat, b 0 = h0 ∧ w' = [(mp_ob4 h0 0 0 0 (b 1) 0 0 0 0 0 (b 2)), (mp_arI E (b 1) 0 11 (fun _ => 0)), (mp_arI E (b 2) 0 132 (fun _ => 0))]) := by
  refine mp_met true (by decide) (by decide) (Nat.le_of_ble_eq_true rfl) (fun X hF hQ => ?_)
  have hF : mp_F E X (RX4, cX4_init, 1, (1, 2, 143, 12), none, true) := hF
  show mp_W E X 1 0 [(0, .ref h0)] [] [(h0, .inr (4, [.int 0, .int 0, .int 0, .null, .int 0, .int 0, .int 0, .int 0, .int 0, .null]))] 0 0
  refine mp_run mp_k_cX4_init_ok hF mp_tabX4_ok [mp_i (.aload_n 0)] (by decide +kernel) ?_
  show mp_W E X 1 1 [(0, .ref h0)] [.ref h0] [(h0, .inr (4, [.int 0, .int 0, .int 0, .null, .int 0, .int 0, .int 0, .int 0, .int 0, .null]))] 0 0
  refine mp_objInit hF (idx := 3) (mp_gm (j := 2057) (by decide +kernel)) ⟨(Nat.le_of_ble_eq_true rfl), (Nat.le_of_ble_eq_true rfl)⟩ (by first | exact mp_fd_ok mp_k_cX4_init_ok (by decide +kernel) | decide +kernel) ?_
  show mp_W E X 1 4 [(0, .ref h0)] [] [(h0, .inr (4, [.int 0, .int 0, .int 0, .null, .int 0, .int 0, .int 0, .int 0, .int 0, .null]))] 0 0
  refine mp_run mp_k_cX4_init_ok hF mp_tabX4_ok [mp_i (.aload_n 0), mp_c (.bipush 11) 11, mp_h (.newarray .int) [11], mp_h (.putfield 11) [6, 0]] (by decide +kernel) ?_
  refine And.intro (by decide) (And.intro (Nat.le_of_ble_eq_true rfl) (And.intro (Nat.le_of_ble_eq_true rfl) (And.intro (by decide) ?_)))
  intro q1
  refine And.intro rfl (And.intro rfl (And.intro rfl (And.intro rfl (And.intro (Nat.le_of_ble_eq_true rfl) ?_))))
  show mp_W E X 1 12 [(0, .ref h0)] [] [(h0, .inr (4, [.int 0, .int 0, .int 0, .ref q1, .int 0, .int 0, .int 0, .int 0, .int 0, .null])), (mp_arI E q1 0 11 (fun _ => 0))] 1 11
  refine mp_run mp_k_cX4_init_ok hF mp_tabX4_ok [mp_i (.aload_n 0), mp_c (.sipush 132) 132, mp_h (.newarray .int) [132], mp_h (.putfield 15) [12, 0]] (by decide +kernel) ?_
  refine And.intro (by decide) (And.intro (Nat.le_of_ble_eq_true rfl) (And.intro (Nat.le_of_ble_eq_true rfl) (And.intro (by decide) ?_)))
  intro q2
  refine And.intro rfl (And.intro rfl (And.intro rfl (And.intro rfl (And.intro (Nat.le_of_ble_eq_true rfl) ?_))))
  let w1_ : va_W := [(mp_ob4 h0 0 0 0 q1 0 0 0 0 0 q2), (mp_arI E q1 0 11 (fun _ => 0)), (mp_arI E q2 0 132 (fun _ => 0))]
  show mp_W E X 1 21 [(0, .ref h0)] [] w1_ 2 143
  exact mp_vret hF hQ rfl (Nat.le_of_ble_eq_true rfl) (Nat.le_of_ble_eq_true rfl) [0, 1, 2] (w' := w1_) rfl rfl ⟨rfl, fun k => ([h0, q1, q2] : List Nat).getD k 0, rfl, rfl⟩ (by first | exact mp_fd_ok mp_k_cX4_init_ok (by decide +kernel) | decide +kernel)

set_option maxHeartbeats 4000000 in
set_option maxRecDepth 100000 in
theorem k_Years (E : mp_E) (h0 : Nat) : mp_Ct E yX8_init cX8_init 1 none 1 1 10 12 [.ref h0] [(h0, .inr (8, [.null, .int 0, .int 0]))] (fun v w' => v = none ∧ ∃ b : Nat → Nat, b 0 = h0 ∧ w' = [(mp_ob8 h0 (b 1) 0 0), (mp_arI E (b 1) 0 10 (fun _ => 0))]) := by
  refine mp_met true (by decide) (by decide) (Nat.le_of_ble_eq_true rfl) (fun X hF hQ => ?_)
  have hF : mp_F E X (RX8, cX8_init, 1, (1, 1, 10, 12), none, true) := hF
  show mp_W E X 1 0 [(0, .ref h0)] [] [(h0, .inr (8, [.null, .int 0, .int 0]))] 0 0
  refine mp_run mp_k_cX8_init_ok hF mp_tabX8_ok [mp_i (.aload_n 0)] (by decide +kernel) ?_
  show mp_W E X 1 1 [(0, .ref h0)] [.ref h0] [(h0, .inr (8, [.null, .int 0, .int 0]))] 0 0
  refine mp_objInit hF (idx := 3) (mp_gm (j := 2114) (by decide +kernel)) ⟨(Nat.le_of_ble_eq_true rfl), (Nat.le_of_ble_eq_true rfl)⟩ (by first | exact mp_fd_ok mp_k_cX8_init_ok (by decide +kernel) | decide +kernel) ?_
  show mp_W E X 1 4 [(0, .ref h0)] [] [(h0, .inr (8, [.null, .int 0, .int 0]))] 0 0
  refine mp_run mp_k_cX8_init_ok hF mp_tabX8_ok [mp_i (.aload_n 0), mp_c (.bipush 10) 10, mp_h (.newarray .int) [10], mp_h (.putfield 9) [5, 0]] (by decide +kernel) ?_
  refine And.intro (by decide) (And.intro (Nat.le_of_ble_eq_true rfl) (And.intro (Nat.le_of_ble_eq_true rfl) (And.intro (by decide) ?_)))
  intro q1
  refine And.intro rfl (And.intro rfl (And.intro rfl (And.intro rfl (And.intro (Nat.le_of_ble_eq_true rfl) ?_))))
  show mp_W E X 1 12 [(0, .ref h0)] [] [(mp_ob8 h0 q1 0 0), (mp_arI E q1 0 10 (fun _ => 0))] 1 10
  exact mp_vret hF hQ rfl (Nat.le_of_ble_eq_true rfl) (Nat.le_of_ble_eq_true rfl) [0, 1] (w' := [(mp_ob8 h0 q1 0 0), (mp_arI E q1 0 10 (fun _ => 0))]) rfl rfl ⟨rfl, fun k => ([h0, q1] : List Nat).getD k 0, rfl, rfl⟩ (by first | exact mp_fd_ok mp_k_cX8_init_ok (by decide +kernel) | decide +kernel)

set_option maxHeartbeats 4000000 in
set_option maxRecDepth 100000 in
theorem k_Slots (E : mp_E) (h0 : Nat) : mp_Ct E yX5_init cX5_init 2 none 1 3 248 12 [.ref h0] [(h0, .inr (5, [.null, .null, .null]))] (fun v w' => v = none ∧ ∃ b : Nat → Nat, ∃ ln : Nat → Int32, b 0 = h0 ∧ (∀ j, j < 4 → ln j = -1) ∧ w' = [(mp_ob5 h0 (b 1) (b 2) (b 3)), (mp_arL E (b 1) 240 (fun _ => 0)), (mp_arI E (b 2) 0 4 (fun _ => 0)), (mp_arI E (b 3) 0 4 ln)]) := by
  refine mp_met true (by decide) (by decide) (Nat.le_of_ble_eq_true rfl) (fun X hF hQ => ?_)
  have hF : mp_F E X (RX5, cX5_init, 2, (1, 3, 248, 12), none, true) := hF
  show mp_W E X 2 0 [(0, .ref h0)] [] [(h0, .inr (5, [.null, .null, .null]))] 0 0
  refine mp_run mp_k_cX5_init_ok hF mp_tabX5_ok [mp_i (.aload_n 0)] (by decide +kernel) ?_
  show mp_W E X 2 1 [(0, .ref h0)] [.ref h0] [(h0, .inr (5, [.null, .null, .null]))] 0 0
  refine mp_objInit hF (idx := 3) (mp_gm (j := 2132) (by decide +kernel)) ⟨(Nat.le_of_ble_eq_true rfl), (Nat.le_of_ble_eq_true rfl)⟩ (by first | exact mp_fd_ok mp_k_cX5_init_ok (by decide +kernel) | decide +kernel) ?_
  show mp_W E X 2 4 [(0, .ref h0)] [] [(h0, .inr (5, [.null, .null, .null]))] 0 0
  refine mp_run mp_k_cX5_init_ok hF mp_tabX5_ok [mp_i (.aload_n 0), mp_c (.sipush 240) 240, mp_h (.newarray .long) [240], mp_h (.putfield 9) [0, 0]] (by decide +kernel) ?_
  refine And.intro (by decide) (And.intro (Nat.le_of_ble_eq_true rfl) (And.intro (Nat.le_of_ble_eq_true rfl) (And.intro (by decide) ?_)))
  intro q1
  refine And.intro rfl (And.intro rfl (And.intro rfl (And.intro rfl (And.intro (Nat.le_of_ble_eq_true rfl) ?_))))
  show mp_W E X 2 13 [(0, .ref h0)] [] [(h0, .inr (5, [.ref q1, .null, .null])), (mp_arL E q1 240 (fun _ => 0))] 1 240
  refine mp_run mp_k_cX5_init_ok hF mp_tabX5_ok [mp_i (.aload_n 0), mp_c (.iconst 4) 4, mp_h (.newarray .int) [4], mp_h (.putfield 15) [1, 0]] (by decide +kernel) ?_
  refine And.intro (by decide) (And.intro (Nat.le_of_ble_eq_true rfl) (And.intro (Nat.le_of_ble_eq_true rfl) (And.intro (by decide) ?_)))
  intro q2
  refine And.intro rfl (And.intro rfl (And.intro rfl (And.intro rfl (And.intro (Nat.le_of_ble_eq_true rfl) ?_))))
  show mp_W E X 2 20 [(0, .ref h0)] [] [(h0, .inr (5, [.ref q1, .ref q2, .null])), (mp_arL E q1 240 (fun _ => 0)), (mp_arI E q2 0 4 (fun _ => 0))] 2 244
  refine mp_run mp_k_cX5_init_ok hF mp_tabX5_ok [mp_i (.aload_n 0), mp_c (.iconst 4) 4, mp_h (.newarray .int) [4], mp_h (.putfield 19) [2, 0]] (by decide +kernel) ?_
  refine And.intro (by decide) (And.intro (Nat.le_of_ble_eq_true rfl) (And.intro (Nat.le_of_ble_eq_true rfl) (And.intro (by decide) ?_)))
  intro q3
  refine And.intro rfl (And.intro rfl (And.intro rfl (And.intro rfl (And.intro (Nat.le_of_ble_eq_true rfl) ?_))))
  let w1_ : va_W := [(mp_ob5 h0 q1 q2 q3), (mp_arL E q1 240 (fun _ => 0)), (mp_arI E q2 0 4 (fun _ => 0)), (mp_arI E q3 0 4 (fun _ => 0))]
  show mp_W E X 2 27 [(0, .ref h0)] [] w1_ 3 248
  refine mp_run mp_k_cX5_init_ok hF mp_tabX5_ok [mp_c (.iconst 0) 0, mp_i (.istore_n 1), mp_i (.iload_n 1), mp_c (.iconst 4) 4, mp_h (.if_icmp .ge 16) [47]] (by decide +kernel) ?_
  refine And.intro (fun c4 => absurd c4 (by decide)) (fun _ => ?_)
  show mp_W E X 2 34 [(1, .int 0), (0, .ref h0)] [] w1_ 3 248
  refine mp_run mp_k_cX5_init_ok hF mp_tabX5_ok [mp_i (.aload_n 0), mp_h (.getfield 19) [2, 0], mp_i (.iload_n 1), mp_c (.iconst (-1)) (-1), mp_h .iastore [3]] (by decide +kernel) ?_
  refine And.intro rfl (And.intro rfl ?_)
  refine And.intro rfl (And.intro rfl (And.intro (vp_in_iff.mpr (by decide)) ?_))
  intro g5 h6
  let w2_ : va_W := [(mp_ob5 h0 q1 q2 q3), (mp_arL E q1 240 (fun _ => 0)), (mp_arI E q2 0 4 (fun _ => 0)), (mp_arI E q3 0 4 g5)]
  show mp_W E X 2 41 [(1, .int 0), (0, .ref h0)] [] w2_ 3 248
  refine mp_run mp_k_cX5_init_ok hF mp_tabX5_ok [mp_c (.iinc 1 1) 1, mp_h (.goto (-15)) [29], mp_i (.iload_n 1), mp_c (.iconst 4) 4, mp_h (.if_icmp .ge 16) [47]] (by decide +kernel) ?_
  intro z7 h8
  obtain rfl : z7 = 1 := h8.trans (by decide)
  refine And.intro (fun c9 => absurd c9 (by decide)) (fun _ => ?_)
  show mp_W E X 2 34 [(1, .int 1), (0, .ref h0)] [] w2_ 3 248
  refine mp_run mp_k_cX5_init_ok hF mp_tabX5_ok [mp_i (.aload_n 0), mp_h (.getfield 19) [2, 0], mp_i (.iload_n 1), mp_c (.iconst (-1)) (-1), mp_h .iastore [3]] (by decide +kernel) ?_
  refine And.intro rfl (And.intro rfl ?_)
  refine And.intro rfl (And.intro rfl (And.intro (vp_in_iff.mpr (by decide)) ?_))
  intro g10 h11
  let w3_ : va_W := [(mp_ob5 h0 q1 q2 q3), (mp_arL E q1 240 (fun _ => 0)), (mp_arI E q2 0 4 (fun _ => 0)), (mp_arI E q3 0 4 g10)]
  show mp_W E X 2 41 [(1, .int 1), (0, .ref h0)] [] w3_ 3 248
  refine mp_run mp_k_cX5_init_ok hF mp_tabX5_ok [mp_c (.iinc 1 1) 1, mp_h (.goto (-15)) [29], mp_i (.iload_n 1), mp_c (.iconst 4) 4, mp_h (.if_icmp .ge 16) [47]] (by decide +kernel) ?_
  intro z12 h13
  obtain rfl : z12 = 2 := h13.trans (by decide)
  refine And.intro (fun c14 => absurd c14 (by decide)) (fun _ => ?_)
  show mp_W E X 2 34 [(1, .int 2), (0, .ref h0)] [] w3_ 3 248
  refine mp_run mp_k_cX5_init_ok hF mp_tabX5_ok [mp_i (.aload_n 0), mp_h (.getfield 19) [2, 0], mp_i (.iload_n 1), mp_c (.iconst (-1)) (-1), mp_h .iastore [3]] (by decide +kernel) ?_
  refine And.intro rfl (And.intro rfl ?_)
  refine And.intro rfl (And.intro rfl (And.intro (vp_in_iff.mpr (by decide)) ?_))
  intro g15 h16
  let w4_ : va_W := [(mp_ob5 h0 q1 q2 q3), (mp_arL E q1 240 (fun _ => 0)), (mp_arI E q2 0 4 (fun _ => 0)), (mp_arI E q3 0 4 g15)]
  show mp_W E X 2 41 [(1, .int 2), (0, .ref h0)] [] w4_ 3 248
  refine mp_run mp_k_cX5_init_ok hF mp_tabX5_ok [mp_c (.iinc 1 1) 1, mp_h (.goto (-15)) [29], mp_i (.iload_n 1), mp_c (.iconst 4) 4, mp_h (.if_icmp .ge 16) [47]] (by decide +kernel) ?_
  intro z17 h18
  obtain rfl : z17 = 3 := h18.trans (by decide)
  refine And.intro (fun c19 => absurd c19 (by decide)) (fun _ => ?_)
  show mp_W E X 2 34 [(1, .int 3), (0, .ref h0)] [] w4_ 3 248
  refine mp_run mp_k_cX5_init_ok hF mp_tabX5_ok [mp_i (.aload_n 0), mp_h (.getfield 19) [2, 0], mp_i (.iload_n 1), mp_c (.iconst (-1)) (-1), mp_h .iastore [3]] (by decide +kernel) ?_
  refine And.intro rfl (And.intro rfl ?_)
  refine And.intro rfl (And.intro rfl (And.intro (vp_in_iff.mpr (by decide)) ?_))
  intro g20 h21
  let w5_ : va_W := [(mp_ob5 h0 q1 q2 q3), (mp_arL E q1 240 (fun _ => 0)), (mp_arI E q2 0 4 (fun _ => 0)), (mp_arI E q3 0 4 g20)]
  show mp_W E X 2 41 [(1, .int 3), (0, .ref h0)] [] w5_ 3 248
  refine mp_run mp_k_cX5_init_ok hF mp_tabX5_ok [mp_c (.iinc 1 1) 1, mp_h (.goto (-15)) [29], mp_i (.iload_n 1), mp_c (.iconst 4) 4, mp_h (.if_icmp .ge 16) [47]] (by decide +kernel) ?_
  intro z22 h23
  obtain rfl : z22 = 4 := h23.trans (by decide)
  refine And.intro (fun _ => ?_) (fun c24 => absurd c24 (by decide))
  show mp_W E X 2 47 [(1, .int 4), (0, .ref h0)] [] w5_ 3 248
  exact mp_vret hF hQ rfl (Nat.le_of_ble_eq_true rfl) (Nat.le_of_ble_eq_true rfl) [0, 1, 2, 3] (w' := w5_) rfl rfl ⟨rfl, fun k => ([h0, q1, q2, q3] : List Nat).getD k 0, g20, rfl, (by intro j hj; rw [h21, h16, h11, h6]; have h9 : j = 0 ∨ j = 1 ∨ j = 2 ∨ j = 3 := (by (first | exact mp_o2171 hj | omega)); rcases h9 with rfl | rfl | rfl | rfl <;> rfl), rfl⟩ (by first | exact mp_fd_ok mp_k_cX5_init_ok (by decide +kernel) | decide +kernel)

set_option maxHeartbeats 4000000 in
set_option maxRecDepth 100000 in
theorem k_Reader (E : mp_E) (h0 : Nat) : mp_Ct E yX3_init cX3_init 1 none 2 14 1804 32 [.ref h0] [(h0, .inr (3, [.null, .int 0, .null, .int 0, .int 0, .int 0, .int 0, .int 0, .int 0, .int 0]))] (fun v w' => v = none ∧ ∃ b : Nat → Nat, b 0 = h0 ∧ w' = [(mp_ob3 h0 (b 1) 0 (b 2) 0 (-1) 0 0 0 0 0), (mp_arI E (b 1) 1 1600 (fun _ => 0)), (mp_ob7 (b 2) 0 0 0 0 0 0 (b 3) (b 4) (b 5) (b 6) (b 7) (b 8) (b 9) (b 10) (b 11) (b 12) (b 13) (b 14)), (mp_arI E (b 3) 0 36 (fun _ => 0)), (mp_arL E (b 4) 12 (fun _ => 0)), (mp_arI E (b 5) 0 6 (fun _ => 0)), (mp_arI E (b 6) 0 6 (fun _ => 0)), (mp_arI E (b 7) 0 6 (fun _ => 0)), (mp_arI E (b 8) 0 10 (fun _ => 0)), (mp_arI E (b 9) 0 10 (fun _ => 0)), (mp_arI E (b 10) 0 10 (fun _ => 0)), (mp_arI E (b 11) 0 10 (fun _ => 0)), (mp_arI E (b 12) 0 10 (fun _ => 0)), (mp_arI E (b 13) 0 10 (fun _ => 0)), (mp_arI E (b 14) 0 60 (fun _ => 0))]) := by
  refine mp_met true (by decide) (by decide) (Nat.le_of_ble_eq_true rfl) (fun X hF hQ => ?_)
  have hF : mp_F E X (RX3, cX3_init, 1, (2, 14, 1804, 32), none, true) := hF
  show mp_W E X 1 0 [(0, .ref h0)] [] [(h0, .inr (3, [.null, .int 0, .null, .int 0, .int 0, .int 0, .int 0, .int 0, .int 0, .int 0]))] 0 0
  refine mp_run mp_k_cX3_init_ok hF mp_tabX3_ok [mp_i (.aload_n 0)] (by decide +kernel) ?_
  show mp_W E X 1 1 [(0, .ref h0)] [.ref h0] [(h0, .inr (3, [.null, .int 0, .null, .int 0, .int 0, .int 0, .int 0, .int 0, .int 0, .int 0]))] 0 0
  refine mp_objInit hF (idx := 3) (mp_gm (j := 1034) (by decide +kernel)) ⟨(Nat.le_of_ble_eq_true rfl), (Nat.le_of_ble_eq_true rfl)⟩ (by first | exact mp_fd_ok mp_k_cX3_init_ok (by decide +kernel) | decide +kernel) ?_
  show mp_W E X 1 4 [(0, .ref h0)] [] [(h0, .inr (3, [.null, .int 0, .null, .int 0, .int 0, .int 0, .int 0, .int 0, .int 0, .int 0]))] 0 0
  refine mp_run mp_k_cX3_init_ok hF mp_tabX3_ok [mp_i (.aload_n 0), mp_c (.sipush 1600) 1600, mp_h (.newarray .byte) [1600], mp_h (.putfield 9) [9, 0]] (by decide +kernel) ?_
  refine And.intro (by decide) (And.intro (Nat.le_of_ble_eq_true rfl) (And.intro (Nat.le_of_ble_eq_true rfl) (And.intro (by decide) ?_)))
  intro q1
  refine And.intro rfl (And.intro rfl (And.intro rfl (And.intro rfl (And.intro (Nat.le_of_ble_eq_true rfl) ?_))))
  show mp_W E X 1 13 [(0, .ref h0)] [] [(h0, .inr (3, [.ref q1, .int 0, .null, .int 0, .int 0, .int 0, .int 0, .int 0, .int 0, .int 0])), (mp_arI E q1 1 1600 (fun _ => 0))] 1 1600
  refine mp_run mp_k_cX3_init_ok hF mp_tabX3_ok [mp_i (.aload_n 0)] (by decide +kernel) ?_
  show mp_W E X 1 14 [(0, .ref h0)] [.ref h0] [(h0, .inr (3, [.ref q1, .int 0, .null, .int 0, .int 0, .int 0, .int 0, .int 0, .int 0, .int 0])), (mp_arI E q1 1 1600 (fun _ => 0))] 1 1600
  refine mp_new hF (mp_lnX3_15) ⟨(Nat.le_of_ble_eq_true rfl), (Nat.le_of_ble_eq_true rfl)⟩ (by first | exact mp_fd_ok mp_k_cX3_init_ok (by decide +kernel) | decide +kernel) (fun q2 => ?_)
  let w1_ : va_W := [(h0, .inr (3, [.ref q1, .int 0, .null, .int 0, .int 0, .int 0, .int 0, .int 0, .int 0, .int 0])), (mp_arI E q1 1 1600 (fun _ => 0)), (q2, .inr (7, [.int 0, .int 0, .int 0, .int 0, .int 0, .int 0, .null, .null, .null, .null, .null, .null, .null, .null, .null, .null, .null, .null]))]
  show mp_W E X 1 17 [(0, .ref h0)] [.ref q2, .ref h0] w1_ 2 1618
  refine mp_run mp_k_cX3_init_ok hF mp_tabX3_ok [mp_i .dup] (by decide +kernel) ?_
  refine And.intro rfl ?_
  show mp_W E X 1 18 [(0, .ref h0)] [.ref q2, .ref q2, .ref h0] w1_ 2 1618
  refine mp_callIN hF (As := []) (rest := [.ref q2, .ref h0]) (wr := [(h0, .inr (3, [.ref q1, .int 0, .null, .int 0, .int 0, .int 0, .int 0, .int 0, .int 0, .int 0])), (mp_arI E q1 1 1600 (fun _ => 0))]) (k_Told E q2) rfl (mp_gm (j := 1038) (by decide +kernel)) mp_lkX3_17 [2] [0, 1] rfl rfl rfl rfl rfl ⟨(Nat.le_of_ble_eq_true rfl), (Nat.le_of_ble_eq_true rfl), (Nat.le_of_ble_eq_true rfl), (Nat.le_of_ble_eq_true rfl)⟩ (Nat.le_of_ble_eq_true rfl) (by first | exact mp_fd_ok mp_k_cX3_init_ok (by decide +kernel) | decide +kernel) (fun v3 w4 h5 => ?_)
  obtain ⟨rfl, b6, h7, rfl⟩ := h5
  clear h7
  let w2_ : va_W := [(h0, .inr (3, [.ref q1, .int 0, .null, .int 0, .int 0, .int 0, .int 0, .int 0, .int 0, .int 0])), (mp_arI E q1 1 1600 (fun _ => 0)), (mp_ob7 q2 0 0 0 0 0 0 (b6 1) (b6 2) (b6 3) (b6 4) (b6 5) (b6 6) (b6 7) (b6 8) (b6 9) (b6 10) (b6 11) (b6 12)), (mp_arI E (b6 1) 0 36 (fun _ => 0)), (mp_arL E (b6 2) 12 (fun _ => 0)), (mp_arI E (b6 3) 0 6 (fun _ => 0)), (mp_arI E (b6 4) 0 6 (fun _ => 0)), (mp_arI E (b6 5) 0 6 (fun _ => 0)), (mp_arI E (b6 6) 0 10 (fun _ => 0)), (mp_arI E (b6 7) 0 10 (fun _ => 0)), (mp_arI E (b6 8) 0 10 (fun _ => 0)), (mp_arI E (b6 9) 0 10 (fun _ => 0)), (mp_arI E (b6 10) 0 10 (fun _ => 0)), (mp_arI E (b6 11) 0 10 (fun _ => 0)), (mp_arI E (b6 12) 0 60 (fun _ => 0))]
  show mp_W E X 1 21 [(0, .ref h0)] [.ref q2, .ref h0] w2_ 14 1804
  refine mp_run mp_k_cX3_init_ok hF mp_tabX3_ok [mp_h (.putfield 18) [11, 0]] (by decide +kernel) ?_
  refine And.intro rfl (And.intro rfl (And.intro rfl (And.intro rfl (And.intro (Nat.le_of_ble_eq_true rfl) ?_))))
  let w3_ : va_W := [(mp_ob3 h0 q1 0 q2 0 0 0 0 0 0 0), (mp_arI E q1 1 1600 (fun _ => 0)), (mp_ob7 q2 0 0 0 0 0 0 (b6 1) (b6 2) (b6 3) (b6 4) (b6 5) (b6 6) (b6 7) (b6 8) (b6 9) (b6 10) (b6 11) (b6 12)), (mp_arI E (b6 1) 0 36 (fun _ => 0)), (mp_arL E (b6 2) 12 (fun _ => 0)), (mp_arI E (b6 3) 0 6 (fun _ => 0)), (mp_arI E (b6 4) 0 6 (fun _ => 0)), (mp_arI E (b6 5) 0 6 (fun _ => 0)), (mp_arI E (b6 6) 0 10 (fun _ => 0)), (mp_arI E (b6 7) 0 10 (fun _ => 0)), (mp_arI E (b6 8) 0 10 (fun _ => 0)), (mp_arI E (b6 9) 0 10 (fun _ => 0)), (mp_arI E (b6 10) 0 10 (fun _ => 0)), (mp_arI E (b6 11) 0 10 (fun _ => 0)), (mp_arI E (b6 12) 0 60 (fun _ => 0))]
  show mp_W E X 1 24 [(0, .ref h0)] [] w3_ 14 1804
  refine mp_run mp_k_cX3_init_ok hF mp_tabX3_ok [mp_i (.aload_n 0), mp_c (.iconst (-1)) (-1), mp_h (.putfield 22) [13, 0]] (by decide +kernel) ?_
  refine And.intro rfl (And.intro rfl (And.intro rfl (And.intro rfl (And.intro (Nat.le_of_ble_eq_true rfl) ?_))))
  let w4_ : va_W := [(mp_ob3 h0 q1 0 q2 0 (-1) 0 0 0 0 0), (mp_arI E q1 1 1600 (fun _ => 0)), (mp_ob7 q2 0 0 0 0 0 0 (b6 1) (b6 2) (b6 3) (b6 4) (b6 5) (b6 6) (b6 7) (b6 8) (b6 9) (b6 10) (b6 11) (b6 12)), (mp_arI E (b6 1) 0 36 (fun _ => 0)), (mp_arL E (b6 2) 12 (fun _ => 0)), (mp_arI E (b6 3) 0 6 (fun _ => 0)), (mp_arI E (b6 4) 0 6 (fun _ => 0)), (mp_arI E (b6 5) 0 6 (fun _ => 0)), (mp_arI E (b6 6) 0 10 (fun _ => 0)), (mp_arI E (b6 7) 0 10 (fun _ => 0)), (mp_arI E (b6 8) 0 10 (fun _ => 0)), (mp_arI E (b6 9) 0 10 (fun _ => 0)), (mp_arI E (b6 10) 0 10 (fun _ => 0)), (mp_arI E (b6 11) 0 10 (fun _ => 0)), (mp_arI E (b6 12) 0 60 (fun _ => 0))]
  show mp_W E X 1 29 [(0, .ref h0)] [] w4_ 14 1804
  exact mp_vret hF hQ rfl (Nat.le_of_ble_eq_true rfl) (Nat.le_of_ble_eq_true rfl) [0, 1, 2, 3, 4, 5, 6, 7, 8, 9, 10, 11, 12, 13, 14] (w' := w4_) rfl rfl ⟨rfl, fun k => ([h0, q1, q2, (b6 1), (b6 2), (b6 3), (b6 4), (b6 5), (b6 6), (b6 7), (b6 8), (b6 9), (b6 10), (b6 11), (b6 12)] : List Nat).getD k 0, rfl, rfl⟩ (by first | exact mp_fd_ok mp_k_cX3_init_ok (by decide +kernel) | decide +kernel)

set_option maxHeartbeats 4000000 in
set_option maxRecDepth 100000 in
theorem k_Course (E : mp_E) (h0 : Nat) : mp_Ct E yX0_init cX0_init 1 none 2 19 262 32 [.ref h0] [(h0, .inr (0, [.null, .int 0, .null, .null, .null, .null, .null, .null]))] (fun v w' => v = none ∧ ∃ b : Nat → Nat, b 0 = h0 ∧ w' = [(mp_ob0 h0 (b 1) 0 (b 14) (b 15) (b 16) (b 17) (b 18) (b 19)), (mp_ob7 (b 1) 0 0 0 0 0 0 (b 2) (b 3) (b 4) (b 5) (b 6) (b 7) (b 8) (b 9) (b 10) (b 11) (b 12) (b 13)), (mp_arI E (b 2) 0 36 (fun _ => 0)), (mp_arL E (b 3) 12 (fun _ => 0)), (mp_arI E (b 4) 0 6 (fun _ => 0)), (mp_arI E (b 5) 0 6 (fun _ => 0)), (mp_arI E (b 6) 0 6 (fun _ => 0)), (mp_arI E (b 7) 0 10 (fun _ => 0)), (mp_arI E (b 8) 0 10 (fun _ => 0)), (mp_arI E (b 9) 0 10 (fun _ => 0)), (mp_arI E (b 10) 0 10 (fun _ => 0)), (mp_arI E (b 11) 0 10 (fun _ => 0)), (mp_arI E (b 12) 0 10 (fun _ => 0)), (mp_arI E (b 13) 0 60 (fun _ => 0)), (mp_arI E (b 14) 0 6 (fun _ => 0)), (mp_arI E (b 15) 0 6 (fun _ => 0)), (mp_arI E (b 16) 0 6 (fun _ => 0)), (mp_arL E (b 17) 20 (fun _ => 0)), (mp_arI E (b 18) 0 10 (fun _ => 0)), (mp_arI E (b 19) 0 10 (fun _ => 0))]) := by
  refine mp_met true (by decide) (by decide) (Nat.le_of_ble_eq_true rfl) (fun X hF hQ => ?_)
  have hF : mp_F E X (RX0, cX0_init, 1, (2, 19, 262, 32), none, true) := hF
  show mp_W E X 1 0 [(0, .ref h0)] [] [(h0, .inr (0, [.null, .int 0, .null, .null, .null, .null, .null, .null]))] 0 0
  refine mp_run mp_k_cX0_init_ok hF mp_tabX0_ok [mp_i (.aload_n 0)] (by decide +kernel) ?_
  show mp_W E X 1 1 [(0, .ref h0)] [.ref h0] [(h0, .inr (0, [.null, .int 0, .null, .null, .null, .null, .null, .null]))] 0 0
  refine mp_objInit hF (idx := 3) (mp_gm (j := 1189) (by decide +kernel)) ⟨(Nat.le_of_ble_eq_true rfl), (Nat.le_of_ble_eq_true rfl)⟩ (by first | exact mp_fd_ok mp_k_cX0_init_ok (by decide +kernel) | decide +kernel) ?_
  show mp_W E X 1 4 [(0, .ref h0)] [] [(h0, .inr (0, [.null, .int 0, .null, .null, .null, .null, .null, .null]))] 0 0
  refine mp_run mp_k_cX0_init_ok hF mp_tabX0_ok [mp_i (.aload_n 0)] (by decide +kernel) ?_
  show mp_W E X 1 5 [(0, .ref h0)] [.ref h0] [(h0, .inr (0, [.null, .int 0, .null, .null, .null, .null, .null, .null]))] 0 0
  refine mp_new hF (mp_lnX0_9) ⟨(Nat.le_of_ble_eq_true rfl), (Nat.le_of_ble_eq_true rfl)⟩ (by first | exact mp_fd_ok mp_k_cX0_init_ok (by decide +kernel) | decide +kernel) (fun q1 => ?_)
  let w1_ : va_W := [(h0, .inr (0, [.null, .int 0, .null, .null, .null, .null, .null, .null])), (q1, .inr (7, [.int 0, .int 0, .int 0, .int 0, .int 0, .int 0, .null, .null, .null, .null, .null, .null, .null, .null, .null, .null, .null, .null]))]
  show mp_W E X 1 8 [(0, .ref h0)] [.ref q1, .ref h0] w1_ 1 18
  refine mp_run mp_k_cX0_init_ok hF mp_tabX0_ok [mp_i .dup] (by decide +kernel) ?_
  refine And.intro rfl ?_
  show mp_W E X 1 9 [(0, .ref h0)] [.ref q1, .ref q1, .ref h0] w1_ 1 18
  refine mp_callIN hF (As := []) (rest := [.ref q1, .ref h0]) (wr := [(h0, .inr (0, [.null, .int 0, .null, .null, .null, .null, .null, .null]))]) (k_Told E q1) rfl (mp_gm (j := 1038) (by decide +kernel)) mp_lkX0_11 [1] [0] rfl rfl rfl rfl rfl ⟨(Nat.le_of_ble_eq_true rfl), (Nat.le_of_ble_eq_true rfl), (Nat.le_of_ble_eq_true rfl), (Nat.le_of_ble_eq_true rfl)⟩ (Nat.le_of_ble_eq_true rfl) (by first | exact mp_fd_ok mp_k_cX0_init_ok (by decide +kernel) | decide +kernel) (fun v2 w3 h4 => ?_)
  obtain ⟨rfl, b5, h6, rfl⟩ := h4
  clear h6
  let w2_ : va_W := [(h0, .inr (0, [.null, .int 0, .null, .null, .null, .null, .null, .null])), (mp_ob7 q1 0 0 0 0 0 0 (b5 1) (b5 2) (b5 3) (b5 4) (b5 5) (b5 6) (b5 7) (b5 8) (b5 9) (b5 10) (b5 11) (b5 12)), (mp_arI E (b5 1) 0 36 (fun _ => 0)), (mp_arL E (b5 2) 12 (fun _ => 0)), (mp_arI E (b5 3) 0 6 (fun _ => 0)), (mp_arI E (b5 4) 0 6 (fun _ => 0)), (mp_arI E (b5 5) 0 6 (fun _ => 0)), (mp_arI E (b5 6) 0 10 (fun _ => 0)), (mp_arI E (b5 7) 0 10 (fun _ => 0)), (mp_arI E (b5 8) 0 10 (fun _ => 0)), (mp_arI E (b5 9) 0 10 (fun _ => 0)), (mp_arI E (b5 10) 0 10 (fun _ => 0)), (mp_arI E (b5 11) 0 10 (fun _ => 0)), (mp_arI E (b5 12) 0 60 (fun _ => 0))]
  show mp_W E X 1 12 [(0, .ref h0)] [.ref q1, .ref h0] w2_ 13 204
  refine mp_run mp_k_cX0_init_ok hF mp_tabX0_ok [mp_h (.putfield 12) [11, 0]] (by decide +kernel) ?_
  refine And.intro rfl (And.intro rfl (And.intro rfl (And.intro rfl (And.intro (Nat.le_of_ble_eq_true rfl) ?_))))
  let w3_ : va_W := [(h0, .inr (0, [.ref q1, .int 0, .null, .null, .null, .null, .null, .null])), (mp_ob7 q1 0 0 0 0 0 0 (b5 1) (b5 2) (b5 3) (b5 4) (b5 5) (b5 6) (b5 7) (b5 8) (b5 9) (b5 10) (b5 11) (b5 12)), (mp_arI E (b5 1) 0 36 (fun _ => 0)), (mp_arL E (b5 2) 12 (fun _ => 0)), (mp_arI E (b5 3) 0 6 (fun _ => 0)), (mp_arI E (b5 4) 0 6 (fun _ => 0)), (mp_arI E (b5 5) 0 6 (fun _ => 0)), (mp_arI E (b5 6) 0 10 (fun _ => 0)), (mp_arI E (b5 7) 0 10 (fun _ => 0)), (mp_arI E (b5 8) 0 10 (fun _ => 0)), (mp_arI E (b5 9) 0 10 (fun _ => 0)), (mp_arI E (b5 10) 0 10 (fun _ => 0)), (mp_arI E (b5 11) 0 10 (fun _ => 0)), (mp_arI E (b5 12) 0 60 (fun _ => 0))]
  show mp_W E X 1 15 [(0, .ref h0)] [] w3_ 13 204
  refine mp_run mp_k_cX0_init_ok hF mp_tabX0_ok [mp_i (.aload_n 0), mp_c (.bipush 6) 6, mp_h (.newarray .int) [6], mp_h (.putfield 18) [13, 0]] (by decide +kernel) ?_
  refine And.intro (by decide) (And.intro (Nat.le_of_ble_eq_true rfl) (And.intro (Nat.le_of_ble_eq_true rfl) (And.intro (by decide) ?_)))
  intro q7
  refine And.intro rfl (And.intro rfl (And.intro rfl (And.intro rfl (And.intro (Nat.le_of_ble_eq_true rfl) ?_))))
  let w4_ : va_W := [(h0, .inr (0, [.ref q1, .int 0, .ref q7, .null, .null, .null, .null, .null])), (mp_ob7 q1 0 0 0 0 0 0 (b5 1) (b5 2) (b5 3) (b5 4) (b5 5) (b5 6) (b5 7) (b5 8) (b5 9) (b5 10) (b5 11) (b5 12)), (mp_arI E (b5 1) 0 36 (fun _ => 0)), (mp_arL E (b5 2) 12 (fun _ => 0)), (mp_arI E (b5 3) 0 6 (fun _ => 0)), (mp_arI E (b5 4) 0 6 (fun _ => 0)), (mp_arI E (b5 5) 0 6 (fun _ => 0)), (mp_arI E (b5 6) 0 10 (fun _ => 0)), (mp_arI E (b5 7) 0 10 (fun _ => 0)), (mp_arI E (b5 8) 0 10 (fun _ => 0)), (mp_arI E (b5 9) 0 10 (fun _ => 0)), (mp_arI E (b5 10) 0 10 (fun _ => 0)), (mp_arI E (b5 11) 0 10 (fun _ => 0)), (mp_arI E (b5 12) 0 60 (fun _ => 0)), (mp_arI E q7 0 6 (fun _ => 0))]
  show mp_W E X 1 23 [(0, .ref h0)] [] w4_ 14 210
  refine mp_run mp_k_cX0_init_ok hF mp_tabX0_ok [mp_i (.aload_n 0), mp_c (.bipush 6) 6, mp_h (.newarray .int) [6], mp_h (.putfield 22) [14, 0]] (by decide +kernel) ?_
  refine And.intro (by decide) (And.intro (Nat.le_of_ble_eq_true rfl) (And.intro (Nat.le_of_ble_eq_true rfl) (And.intro (by decide) ?_)))
  intro q8
  refine And.intro rfl (And.intro rfl (And.intro rfl (And.intro rfl (And.intro (Nat.le_of_ble_eq_true rfl) ?_))))
  let w5_ : va_W := [(h0, .inr (0, [.ref q1, .int 0, .ref q7, .ref q8, .null, .null, .null, .null])), (mp_ob7 q1 0 0 0 0 0 0 (b5 1) (b5 2) (b5 3) (b5 4) (b5 5) (b5 6) (b5 7) (b5 8) (b5 9) (b5 10) (b5 11) (b5 12)), (mp_arI E (b5 1) 0 36 (fun _ => 0)), (mp_arL E (b5 2) 12 (fun _ => 0)), (mp_arI E (b5 3) 0 6 (fun _ => 0)), (mp_arI E (b5 4) 0 6 (fun _ => 0)), (mp_arI E (b5 5) 0 6 (fun _ => 0)), (mp_arI E (b5 6) 0 10 (fun _ => 0)), (mp_arI E (b5 7) 0 10 (fun _ => 0)), (mp_arI E (b5 8) 0 10 (fun _ => 0)), (mp_arI E (b5 9) 0 10 (fun _ => 0)), (mp_arI E (b5 10) 0 10 (fun _ => 0)), (mp_arI E (b5 11) 0 10 (fun _ => 0)), (mp_arI E (b5 12) 0 60 (fun _ => 0)), (mp_arI E q7 0 6 (fun _ => 0)), (mp_arI E q8 0 6 (fun _ => 0))]
  show mp_W E X 1 31 [(0, .ref h0)] [] w5_ 15 216
  refine mp_run mp_k_cX0_init_ok hF mp_tabX0_ok [mp_i (.aload_n 0), mp_c (.bipush 6) 6, mp_h (.newarray .int) [6], mp_h (.putfield 25) [15, 0]] (by decide +kernel) ?_
  refine And.intro (by decide) (And.intro (Nat.le_of_ble_eq_true rfl) (And.intro (Nat.le_of_ble_eq_true rfl) (And.intro (by decide) ?_)))
  intro q9
  refine And.intro rfl (And.intro rfl (And.intro rfl (And.intro rfl (And.intro (Nat.le_of_ble_eq_true rfl) ?_))))
  let w6_ : va_W := [(h0, .inr (0, [.ref q1, .int 0, .ref q7, .ref q8, .ref q9, .null, .null, .null])), (mp_ob7 q1 0 0 0 0 0 0 (b5 1) (b5 2) (b5 3) (b5 4) (b5 5) (b5 6) (b5 7) (b5 8) (b5 9) (b5 10) (b5 11) (b5 12)), (mp_arI E (b5 1) 0 36 (fun _ => 0)), (mp_arL E (b5 2) 12 (fun _ => 0)), (mp_arI E (b5 3) 0 6 (fun _ => 0)), (mp_arI E (b5 4) 0 6 (fun _ => 0)), (mp_arI E (b5 5) 0 6 (fun _ => 0)), (mp_arI E (b5 6) 0 10 (fun _ => 0)), (mp_arI E (b5 7) 0 10 (fun _ => 0)), (mp_arI E (b5 8) 0 10 (fun _ => 0)), (mp_arI E (b5 9) 0 10 (fun _ => 0)), (mp_arI E (b5 10) 0 10 (fun _ => 0)), (mp_arI E (b5 11) 0 10 (fun _ => 0)), (mp_arI E (b5 12) 0 60 (fun _ => 0)), (mp_arI E q7 0 6 (fun _ => 0)), (mp_arI E q8 0 6 (fun _ => 0)), (mp_arI E q9 0 6 (fun _ => 0))]
  show mp_W E X 1 39 [(0, .ref h0)] [] w6_ 16 222
  refine mp_run mp_k_cX0_init_ok hF mp_tabX0_ok [mp_i (.aload_n 0), mp_c (.bipush 20) 20, mp_h (.newarray .long) [20], mp_h (.putfield 28) [16, 0]] (by decide +kernel) ?_
  refine And.intro (by decide) (And.intro (Nat.le_of_ble_eq_true rfl) (And.intro (Nat.le_of_ble_eq_true rfl) (And.intro (by decide) ?_)))
  intro q10
  refine And.intro rfl (And.intro rfl (And.intro rfl (And.intro rfl (And.intro (Nat.le_of_ble_eq_true rfl) ?_))))
  let w7_ : va_W := [(h0, .inr (0, [.ref q1, .int 0, .ref q7, .ref q8, .ref q9, .ref q10, .null, .null])), (mp_ob7 q1 0 0 0 0 0 0 (b5 1) (b5 2) (b5 3) (b5 4) (b5 5) (b5 6) (b5 7) (b5 8) (b5 9) (b5 10) (b5 11) (b5 12)), (mp_arI E (b5 1) 0 36 (fun _ => 0)), (mp_arL E (b5 2) 12 (fun _ => 0)), (mp_arI E (b5 3) 0 6 (fun _ => 0)), (mp_arI E (b5 4) 0 6 (fun _ => 0)), (mp_arI E (b5 5) 0 6 (fun _ => 0)), (mp_arI E (b5 6) 0 10 (fun _ => 0)), (mp_arI E (b5 7) 0 10 (fun _ => 0)), (mp_arI E (b5 8) 0 10 (fun _ => 0)), (mp_arI E (b5 9) 0 10 (fun _ => 0)), (mp_arI E (b5 10) 0 10 (fun _ => 0)), (mp_arI E (b5 11) 0 10 (fun _ => 0)), (mp_arI E (b5 12) 0 60 (fun _ => 0)), (mp_arI E q7 0 6 (fun _ => 0)), (mp_arI E q8 0 6 (fun _ => 0)), (mp_arI E q9 0 6 (fun _ => 0)), (mp_arL E q10 20 (fun _ => 0))]
  show mp_W E X 1 47 [(0, .ref h0)] [] w7_ 17 242
  refine mp_run mp_k_cX0_init_ok hF mp_tabX0_ok [mp_i (.aload_n 0), mp_c (.bipush 10) 10, mp_h (.newarray .int) [10], mp_h (.putfield 32) [17, 0]] (by decide +kernel) ?_
  refine And.intro (by decide) (And.intro (Nat.le_of_ble_eq_true rfl) (And.intro (Nat.le_of_ble_eq_true rfl) (And.intro (by decide) ?_)))
  intro q11
  refine And.intro rfl (And.intro rfl (And.intro rfl (And.intro rfl (And.intro (Nat.le_of_ble_eq_true rfl) ?_))))
  let w8_ : va_W := [(h0, .inr (0, [.ref q1, .int 0, .ref q7, .ref q8, .ref q9, .ref q10, .ref q11, .null])), (mp_ob7 q1 0 0 0 0 0 0 (b5 1) (b5 2) (b5 3) (b5 4) (b5 5) (b5 6) (b5 7) (b5 8) (b5 9) (b5 10) (b5 11) (b5 12)), (mp_arI E (b5 1) 0 36 (fun _ => 0)), (mp_arL E (b5 2) 12 (fun _ => 0)), (mp_arI E (b5 3) 0 6 (fun _ => 0)), (mp_arI E (b5 4) 0 6 (fun _ => 0)), (mp_arI E (b5 5) 0 6 (fun _ => 0)), (mp_arI E (b5 6) 0 10 (fun _ => 0)), (mp_arI E (b5 7) 0 10 (fun _ => 0)), (mp_arI E (b5 8) 0 10 (fun _ => 0)), (mp_arI E (b5 9) 0 10 (fun _ => 0)), (mp_arI E (b5 10) 0 10 (fun _ => 0)), (mp_arI E (b5 11) 0 10 (fun _ => 0)), (mp_arI E (b5 12) 0 60 (fun _ => 0)), (mp_arI E q7 0 6 (fun _ => 0)), (mp_arI E q8 0 6 (fun _ => 0)), (mp_arI E q9 0 6 (fun _ => 0)), (mp_arL E q10 20 (fun _ => 0)), (mp_arI E q11 0 10 (fun _ => 0))]
  show mp_W E X 1 55 [(0, .ref h0)] [] w8_ 18 252
  refine mp_run mp_k_cX0_init_ok hF mp_tabX0_ok [mp_i (.aload_n 0), mp_c (.bipush 10) 10, mp_h (.newarray .int) [10], mp_h (.putfield 35) [18, 0]] (by decide +kernel) ?_
  refine And.intro (by decide) (And.intro (Nat.le_of_ble_eq_true rfl) (And.intro (Nat.le_of_ble_eq_true rfl) (And.intro (by decide) ?_)))
  intro q12
  refine And.intro rfl (And.intro rfl (And.intro rfl (And.intro rfl (And.intro (Nat.le_of_ble_eq_true rfl) ?_))))
  let w9_ : va_W := [(mp_ob0 h0 q1 0 q7 q8 q9 q10 q11 q12), (mp_ob7 q1 0 0 0 0 0 0 (b5 1) (b5 2) (b5 3) (b5 4) (b5 5) (b5 6) (b5 7) (b5 8) (b5 9) (b5 10) (b5 11) (b5 12)), (mp_arI E (b5 1) 0 36 (fun _ => 0)), (mp_arL E (b5 2) 12 (fun _ => 0)), (mp_arI E (b5 3) 0 6 (fun _ => 0)), (mp_arI E (b5 4) 0 6 (fun _ => 0)), (mp_arI E (b5 5) 0 6 (fun _ => 0)), (mp_arI E (b5 6) 0 10 (fun _ => 0)), (mp_arI E (b5 7) 0 10 (fun _ => 0)), (mp_arI E (b5 8) 0 10 (fun _ => 0)), (mp_arI E (b5 9) 0 10 (fun _ => 0)), (mp_arI E (b5 10) 0 10 (fun _ => 0)), (mp_arI E (b5 11) 0 10 (fun _ => 0)), (mp_arI E (b5 12) 0 60 (fun _ => 0)), (mp_arI E q7 0 6 (fun _ => 0)), (mp_arI E q8 0 6 (fun _ => 0)), (mp_arI E q9 0 6 (fun _ => 0)), (mp_arL E q10 20 (fun _ => 0)), (mp_arI E q11 0 10 (fun _ => 0)), (mp_arI E q12 0 10 (fun _ => 0))]
  show mp_W E X 1 63 [(0, .ref h0)] [] w9_ 19 262
  exact mp_vret hF hQ rfl (Nat.le_of_ble_eq_true rfl) (Nat.le_of_ble_eq_true rfl) [0, 1, 2, 3, 4, 5, 6, 7, 8, 9, 10, 11, 12, 13, 14, 15, 16, 17, 18, 19] (w' := w9_) rfl rfl ⟨rfl, fun k => ([h0, q1, (b5 1), (b5 2), (b5 3), (b5 4), (b5 5), (b5 6), (b5 7), (b5 8), (b5 9), (b5 10), (b5 11), (b5 12), q7, q8, q9, q10, q11, q12] : List Nat).getD k 0, rfl, rfl⟩ (by first | exact mp_fd_ok mp_k_cX0_init_ok (by decide +kernel) | decide +kernel)

set_option maxHeartbeats 4000000 in
set_option maxRecDepth 100000 in
theorem k_Threat (E : mp_E) (h0 : Nat) : mp_Ct E yX6_init cX6_init 4 none 1 2 108 12 [.ref h0] [(h0, .inr (6, [.int 0, .null, .null]))] (fun v w' => v = none ∧ ∃ b : Nat → Nat, ∃ vs : Nat → Int32, b 0 = h0 ∧ (∀ j : Nat, (j : Int) < 100 → vs j = mp_nim j) ∧ w' = [(mp_ob6 h0 0 (b 1) (b 2)), (mp_arI E (b 1) 0 8 (fun _ => 0)), (mp_arI E (b 2) 0 100 vs)]) := by
  refine mp_met true (by decide) (by decide) (Nat.le_of_ble_eq_true rfl) (fun X hF hQ => ?_)
  have hF : mp_F E X (RX6, cX6_init, 4, (1, 2, 108, 12), none, true) := hF
  show mp_W E X 4 0 [(0, .ref h0)] [] [(h0, .inr (6, [.int 0, .null, .null]))] 0 0
  refine mp_run mp_k_cX6_init_ok hF mp_tabX6_ok [mp_i (.aload_n 0)] (by decide +kernel) ?_
  show mp_W E X 4 1 [(0, .ref h0)] [.ref h0] [(h0, .inr (6, [.int 0, .null, .null]))] 0 0
  refine mp_objInit hF (idx := 3) (mp_gm (j := 2098) (by decide +kernel)) ⟨(Nat.le_of_ble_eq_true rfl), (Nat.le_of_ble_eq_true rfl)⟩ (by first | exact mp_fd_ok mp_k_cX6_init_ok (by decide +kernel) | decide +kernel) ?_
  show mp_W E X 4 4 [(0, .ref h0)] [] [(h0, .inr (6, [.int 0, .null, .null]))] 0 0
  refine mp_run mp_k_cX6_init_ok hF mp_tabX6_ok [mp_i (.aload_n 0), mp_c (.bipush 8) 8, mp_h (.newarray .int) [8], mp_h (.putfield 11) [1, 0]] (by decide +kernel) ?_
  refine And.intro (by decide) (And.intro (Nat.le_of_ble_eq_true rfl) (And.intro (Nat.le_of_ble_eq_true rfl) (And.intro (by decide) ?_)))
  intro q1
  refine And.intro rfl (And.intro rfl (And.intro rfl (And.intro rfl (And.intro (Nat.le_of_ble_eq_true rfl) ?_))))
  show mp_W E X 4 12 [(0, .ref h0)] [] [(h0, .inr (6, [.int 0, .ref q1, .null])), (mp_arI E q1 0 8 (fun _ => 0))] 1 8
  refine mp_run mp_k_cX6_init_ok hF mp_tabX6_ok [mp_i (.aload_n 0), mp_c (.bipush 100) 100, mp_h (.newarray .int) [100], mp_h (.putfield 15) [2, 0]] (by decide +kernel) ?_
  refine And.intro (by decide) (And.intro (Nat.le_of_ble_eq_true rfl) (And.intro (Nat.le_of_ble_eq_true rfl) (And.intro (by decide) ?_)))
  intro q2
  refine And.intro rfl (And.intro rfl (And.intro rfl (And.intro rfl (And.intro (Nat.le_of_ble_eq_true rfl) ?_))))
  show mp_W E X 4 20 [(0, .ref h0)] [] [(mp_ob6 h0 0 q1 q2), (mp_arI E q1 0 8 (fun _ => 0)), (mp_arI E q2 0 100 (fun _ => 0))] 2 108
  refine mp_run mp_k_cX6_init_ok hF mp_tabX6_ok [mp_c (.iconst 1) 1, mp_i (.istore_n 1)] (by decide +kernel) ?_
  show mp_W E X 4 22 [(1, .int 1), (0, .ref h0)] [] [(mp_ob6 h0 0 q1 q2), (mp_arI E q1 0 8 (fun _ => 0)), (mp_arI E q2 0 100 (fun _ => 0))] 2 108
  have lp3 : ∀ (d4 : Nat) (i6 : Int32) (g7 : Nat → Int32), 1 ≤ i6.toInt → i6.toInt + d4 = 100 → (∀ j : Nat, (j : Int) < i6.toInt → g7 j = mp_nim j) → mp_W E X 4 22 [(1, .int i6), (0, .ref h0)] [] [(mp_ob6 h0 0 q1 q2), (mp_arI E q1 0 8 (fun _ => 0)), (mp_arI E q2 0 100 g7)] 2 108 := by
    intro d4
    induction d4 with
    | zero =>
      intro i6 g7 h8 h9 hV_
      refine mp_run mp_k_cX6_init_ok hF mp_tabX6_ok [mp_i (.iload_n 1), mp_c (.bipush 99) 99, mp_h (.if_icmp .gt 58) [83]] (by decide +kernel) ?_
      refine And.intro (fun c10 => ?_) (fun c10 => ?_)
      · have c10 : 99 < i6.toInt := c10
        show mp_W E X 4 83 [(1, .int i6), (0, .ref h0)] [] [(mp_ob6 h0 0 q1 q2), (mp_arI E q1 0 8 (fun _ => 0)), (mp_arI E q2 0 100 g7)] 2 108
        exact mp_vret hF hQ rfl (Nat.le_of_ble_eq_true rfl) (Nat.le_of_ble_eq_true rfl) [0, 1, 2] (w' := [(mp_ob6 h0 0 q1 q2), (mp_arI E q1 0 8 (fun _ => 0)), (mp_arI E q2 0 100 g7)]) rfl rfl ⟨rfl, fun k => ([h0, q1, q2] : List Nat).getD k 0, g7, rfl, (fun j hj => hV_ j (by (first | exact mp_o2172 hj h9 | omega))), rfl⟩ (by first | exact mp_fd_ok mp_k_cX6_init_ok (by decide +kernel) | decide +kernel)
      · have c10 : i6.toInt ≤ 99 := c10
        exfalso; (first | exact mp_o2173 h9 c10 | omega)
    | succ d4 ih5 =>
      intro i6 g7 h8 h9 hV_
      refine mp_run mp_k_cX6_init_ok hF mp_tabX6_ok [mp_i (.iload_n 1), mp_c (.bipush 99) 99, mp_h (.if_icmp .gt 58) [83]] (by decide +kernel) ?_
      refine And.intro (fun c11 => ?_) (fun c11 => ?_)
      · have c11 : 99 < i6.toInt := c11
        exfalso; (first | exact mp_o2174 c11 h9 | omega)
      · have c11 : i6.toInt ≤ 99 := c11
        show mp_W E X 4 28 [(1, .int i6), (0, .ref h0)] [] [(mp_ob6 h0 0 q1 q2), (mp_arI E q1 0 8 (fun _ => 0)), (mp_arI E q2 0 100 g7)] 2 108
        refine mp_run mp_k_cX6_init_ok hF mp_tabX6_ok [mp_c (.iconst 0) 0, mp_i (.istore_n 2), mp_c (.iconst 0) 0, mp_i (.istore_n 3), mp_i (.iload_n 3), mp_c (.iconst 2) 2, mp_h (.if_icmp .ge 36) [70]] (by decide +kernel) ?_
        refine And.intro (fun c12 => absurd c12 (by decide)) (fun _ => ?_)
        show mp_W E X 4 37 [(3, .int 0), (2, .int 0), (1, .int i6), (0, .ref h0)] [] [(mp_ob6 h0 0 q1 q2), (mp_arI E q1 0 8 (fun _ => 0)), (mp_arI E q2 0 100 g7)] 2 108
        refine mp_run mp_k_cX6_init_ok hF mp_tabX6_ok [mp_i (.iload_n 2), mp_i (.aload_n 0), mp_h (.getfield 15) [2, 0], mp_i (.iload_n 1), mp_c (.iconst 1) 1, mp_i .isub, mp_h .iaload [2], mp_h (.if_icmp .eq 15) [61]] (by decide +kernel) ?_
        refine And.intro rfl (And.intro rfl ?_)
        intro z13 h14
        have e15 : z13.toInt = i6.toInt - 1 := mp_subi (a := i6.toInt) (b := 1) h14 rfl (by decide) (by (first | exact mp_o617 h8 | omega)) (by (first | exact mp_o2175 h9 | omega))
        refine And.intro rfl (And.intro rfl (And.intro (vp_in_iff.mpr (by (first | exact mp_o2176 h8 e15 h9 | omega))) ?_))
        intro z16 h17
        have m18 : z16.toInt = (g7 (i6.toInt - 1).toNat).toInt := by rw [h17, show z13.toNatClampNeg = (i6.toInt - 1).toNat by simp only [Int32.toNatClampNeg]; (first | exact mp_o812 e15 | omega)]
        refine And.intro (fun c19 => ?_) (fun c19 => ?_)
        · have c19 : 0 = z16.toInt := (congrArg Int32.toInt c19)
          show mp_W E X 4 61 [(3, .int 0), (2, .int 0), (1, .int i6), (0, .ref h0)] [] [(mp_ob6 h0 0 q1 q2), (mp_arI E q1 0 8 (fun _ => 0)), (mp_arI E q2 0 100 g7)] 2 108
          refine mp_run mp_k_cX6_init_ok hF mp_tabX6_ok [mp_c (.iinc 2 1) 1, mp_c (.iinc 3 1) 1, mp_h (.goto (-35)) [32], mp_i (.iload_n 3), mp_c (.iconst 2) 2, mp_h (.if_icmp .ge 36) [70]] (by decide +kernel) ?_
          intro z20 h21
          obtain rfl : z20 = 1 := h21.trans (by decide)
          intro z22 h23
          obtain rfl : z22 = 1 := h23.trans (by decide)
          refine And.intro (fun c24 => absurd c24 (by decide)) (fun _ => ?_)
          show mp_W E X 4 37 [(3, .int 1), (2, .int 1), (1, .int i6), (0, .ref h0)] [] [(mp_ob6 h0 0 q1 q2), (mp_arI E q1 0 8 (fun _ => 0)), (mp_arI E q2 0 100 g7)] 2 108
          refine mp_run mp_k_cX6_init_ok hF mp_tabX6_ok [mp_i (.iload_n 2), mp_i (.aload_n 0), mp_h (.getfield 15) [2, 0], mp_i (.iload_n 1), mp_c (.iconst 1) 1, mp_i .isub, mp_h .iaload [2], mp_h (.if_icmp .eq 15) [61]] (by decide +kernel) ?_
          refine And.intro rfl (And.intro rfl ?_)
          intro z25 h26
          have e27 : z25.toInt = i6.toInt - 1 := mp_subi (a := i6.toInt) (b := 1) h26 rfl (by decide) (by (first | exact mp_o617 h8 | omega)) (by (first | exact mp_o2175 h9 | omega))
          refine And.intro rfl (And.intro rfl (And.intro (vp_in_iff.mpr (by (first | exact mp_o2176 h8 e27 h9 | omega))) ?_))
          intro z28 h29
          have m30 : z28.toInt = (g7 (i6.toInt - 1).toNat).toInt := by rw [h29, show z25.toNatClampNeg = (i6.toInt - 1).toNat by simp only [Int32.toNatClampNeg]; (first | exact mp_o812 e27 | omega)]
          refine And.intro (fun c31 => ?_) (fun c31 => ?_)
          · have c31 : 1 = z28.toInt := (congrArg Int32.toInt c31)
            show mp_W E X 4 61 [(3, .int 1), (2, .int 1), (1, .int i6), (0, .ref h0)] [] [(mp_ob6 h0 0 q1 q2), (mp_arI E q1 0 8 (fun _ => 0)), (mp_arI E q2 0 100 g7)] 2 108
            refine mp_run mp_k_cX6_init_ok hF mp_tabX6_ok [mp_c (.iinc 2 1) 1, mp_c (.iinc 3 1) 1, mp_h (.goto (-35)) [32], mp_i (.iload_n 3), mp_c (.iconst 2) 2, mp_h (.if_icmp .ge 36) [70]] (by decide +kernel) ?_
            intro z32 h33
            obtain rfl : z32 = 2 := h33.trans (by decide)
            intro z34 h35
            obtain rfl : z34 = 2 := h35.trans (by decide)
            refine And.intro (fun _ => ?_) (fun c36 => absurd c36 (by decide))
            show mp_W E X 4 70 [(3, .int 2), (2, .int 2), (1, .int i6), (0, .ref h0)] [] [(mp_ob6 h0 0 q1 q2), (mp_arI E q1 0 8 (fun _ => 0)), (mp_arI E q2 0 100 g7)] 2 108
            refine mp_run mp_k_cX6_init_ok hF mp_tabX6_ok [mp_i (.aload_n 0), mp_h (.getfield 15) [2, 0], mp_i (.iload_n 1), mp_i (.iload_n 2), mp_h .iastore [2]] (by decide +kernel) ?_
            refine And.intro rfl (And.intro rfl ?_)
            refine And.intro rfl (And.intro rfl (And.intro (vp_in_iff.mpr (by omega)) ?_))
            intro g37 h38
            show mp_W E X 4 77 [(3, .int 2), (2, .int 2), (1, .int i6), (0, .ref h0)] [] [(mp_ob6 h0 0 q1 q2), (mp_arI E q1 0 8 (fun _ => 0)), (mp_arI E q2 0 100 g37)] 2 108
            refine mp_run mp_k_cX6_init_ok hF mp_tabX6_ok [mp_c (.iinc 1 1) 1, mp_h (.goto (-58)) [22]] (by decide +kernel) ?_
            intro z39 h40
            have e41 : z39.toInt = i6.toInt + 1 := mp_add (a := i6.toInt) (b := 1) h40 rfl (by decide) (by omega) (by omega)
            show mp_W E X 4 22 [(1, .int z39), (3, .int 2), (2, .int 2), (0, .ref h0)] [] [(mp_ob6 h0 0 q1 q2), (mp_arI E q1 0 8 (fun _ => 0)), (mp_arI E q2 0 100 g37)] 2 108
            exact mp_sub [0, 3] rfl [0, 1, 2] rfl rfl (ih5 z39 g37 (by omega) (by omega) (mp_nim_st hV_ h38 rfl (by (first | exact h8 | omega)) (by have i0 : (0 : Int32).toInt = 0 := rfl; have i1 : (1 : Int32).toInt = 1 := rfl; have i2 : (2 : Int32).toInt = 2 := rfl; exact mp_mex_of (by omega) (by omega) (by omega)) (by (first | exact e41 | omega))))
          · have c31 : 1 ≠ z28.toInt := c31
            show mp_W E X 4 49 [(3, .int 1), (2, .int 1), (1, .int i6), (0, .ref h0)] [] [(mp_ob6 h0 0 q1 q2), (mp_arI E q1 0 8 (fun _ => 0)), (mp_arI E q2 0 100 g7)] 2 108
            refine mp_run mp_k_cX6_init_ok hF mp_tabX6_ok [mp_i (.iload_n 2), mp_i (.aload_n 0), mp_h (.getfield 15) [2, 0], mp_i (.iload_n 1), mp_c (.iconst 2) 2, mp_i .idiv, mp_h .iaload [2], mp_h (.if_icmp .ne 6) [64]] (by decide +kernel) ?_
            refine And.intro rfl (And.intro rfl ?_)
            refine And.intro (by decide) ?_
            intro z42 h43
            have e44 : z42.toInt = i6.toInt / 2 := mp_div (a := i6.toInt) (b := 2) h43 rfl (by decide) (by (first | exact mp_o254 h8 | omega)) (by decide)
            refine And.intro rfl (And.intro rfl (And.intro (vp_in_iff.mpr (by (first | exact mp_o2177 h8 e44 h9 | omega))) ?_))
            intro z45 h46
            have m47 : z45.toInt = (g7 (i6.toInt / 2).toNat).toInt := by rw [h46, show z42.toNatClampNeg = (i6.toInt / 2).toNat by simp only [Int32.toNatClampNeg]; (first | exact mp_o814 e44 | omega)]
            refine And.intro (fun c48 => ?_) (fun c48 => ?_)
            · have c48 : 1 ≠ z45.toInt := c48
              show mp_W E X 4 64 [(3, .int 1), (2, .int 1), (1, .int i6), (0, .ref h0)] [] [(mp_ob6 h0 0 q1 q2), (mp_arI E q1 0 8 (fun _ => 0)), (mp_arI E q2 0 100 g7)] 2 108
              refine mp_run mp_k_cX6_init_ok hF mp_tabX6_ok [mp_c (.iinc 3 1) 1, mp_h (.goto (-35)) [32], mp_i (.iload_n 3), mp_c (.iconst 2) 2, mp_h (.if_icmp .ge 36) [70]] (by decide +kernel) ?_
              intro z49 h50
              obtain rfl : z49 = 2 := h50.trans (by decide)
              refine And.intro (fun _ => ?_) (fun c51 => absurd c51 (by decide))
              show mp_W E X 4 70 [(3, .int 2), (2, .int 1), (1, .int i6), (0, .ref h0)] [] [(mp_ob6 h0 0 q1 q2), (mp_arI E q1 0 8 (fun _ => 0)), (mp_arI E q2 0 100 g7)] 2 108
              refine mp_run mp_k_cX6_init_ok hF mp_tabX6_ok [mp_i (.aload_n 0), mp_h (.getfield 15) [2, 0], mp_i (.iload_n 1), mp_i (.iload_n 2), mp_h .iastore [2]] (by decide +kernel) ?_
              refine And.intro rfl (And.intro rfl ?_)
              refine And.intro rfl (And.intro rfl (And.intro (vp_in_iff.mpr (by (first | exact mp_o2178 h8 h9 | omega))) ?_))
              intro g52 h53
              show mp_W E X 4 77 [(3, .int 2), (2, .int 1), (1, .int i6), (0, .ref h0)] [] [(mp_ob6 h0 0 q1 q2), (mp_arI E q1 0 8 (fun _ => 0)), (mp_arI E q2 0 100 g52)] 2 108
              refine mp_run mp_k_cX6_init_ok hF mp_tabX6_ok [mp_c (.iinc 1 1) 1, mp_h (.goto (-58)) [22]] (by decide +kernel) ?_
              intro z54 h55
              have e56 : z54.toInt = i6.toInt + 1 := mp_add (a := i6.toInt) (b := 1) h55 rfl (by decide) (by (first | exact mp_o457 h8 | omega)) (by (first | exact mp_o2179 h9 | omega))
              show mp_W E X 4 22 [(1, .int z54), (3, .int 2), (2, .int 1), (0, .ref h0)] [] [(mp_ob6 h0 0 q1 q2), (mp_arI E q1 0 8 (fun _ => 0)), (mp_arI E q2 0 100 g52)] 2 108
              exact mp_sub [0, 3] rfl [0, 1, 2] rfl rfl (ih5 z54 g52 (by (first | exact mp_o458 h8 e56 | omega)) (by (first | exact mp_o2180 h9 e56 | omega)) (mp_nim_st hV_ h53 rfl (by (first | exact h8 | omega)) (by have i0 : (0 : Int32).toInt = 0 := rfl; have i1 : (1 : Int32).toInt = 1 := rfl; have i2 : (2 : Int32).toInt = 2 := rfl; exact mp_mex_of (by (first | exact mp_o2181 i1 c19 m18 | omega)) (by (first | exact mp_o2182 i1 c19 m18 | omega)) (by (first | exact mp_o2183 i1 c48 m47 | omega))) (by (first | exact e56 | omega))))
            · have c48 : 1 = z45.toInt := (congrArg Int32.toInt c48)
              show mp_W E X 4 61 [(3, .int 1), (2, .int 1), (1, .int i6), (0, .ref h0)] [] [(mp_ob6 h0 0 q1 q2), (mp_arI E q1 0 8 (fun _ => 0)), (mp_arI E q2 0 100 g7)] 2 108
              refine mp_run mp_k_cX6_init_ok hF mp_tabX6_ok [mp_c (.iinc 2 1) 1, mp_c (.iinc 3 1) 1, mp_h (.goto (-35)) [32], mp_i (.iload_n 3), mp_c (.iconst 2) 2, mp_h (.if_icmp .ge 36) [70]] (by decide +kernel) ?_
              intro z57 h58
              obtain rfl : z57 = 2 := h58.trans (by decide)
              intro z59 h60
              obtain rfl : z59 = 2 := h60.trans (by decide)
              refine And.intro (fun _ => ?_) (fun c61 => absurd c61 (by decide))
              show mp_W E X 4 70 [(3, .int 2), (2, .int 2), (1, .int i6), (0, .ref h0)] [] [(mp_ob6 h0 0 q1 q2), (mp_arI E q1 0 8 (fun _ => 0)), (mp_arI E q2 0 100 g7)] 2 108
              refine mp_run mp_k_cX6_init_ok hF mp_tabX6_ok [mp_i (.aload_n 0), mp_h (.getfield 15) [2, 0], mp_i (.iload_n 1), mp_i (.iload_n 2), mp_h .iastore [2]] (by decide +kernel) ?_
              refine And.intro rfl (And.intro rfl ?_)
              refine And.intro rfl (And.intro rfl (And.intro (vp_in_iff.mpr (by (first | exact mp_o2178 h8 h9 | omega))) ?_))
              intro g62 h63
              show mp_W E X 4 77 [(3, .int 2), (2, .int 2), (1, .int i6), (0, .ref h0)] [] [(mp_ob6 h0 0 q1 q2), (mp_arI E q1 0 8 (fun _ => 0)), (mp_arI E q2 0 100 g62)] 2 108
              refine mp_run mp_k_cX6_init_ok hF mp_tabX6_ok [mp_c (.iinc 1 1) 1, mp_h (.goto (-58)) [22]] (by decide +kernel) ?_
              intro z64 h65
              have e66 : z64.toInt = i6.toInt + 1 := mp_add (a := i6.toInt) (b := 1) h65 rfl (by decide) (by (first | exact mp_o457 h8 | omega)) (by (first | exact mp_o2179 h9 | omega))
              show mp_W E X 4 22 [(1, .int z64), (3, .int 2), (2, .int 2), (0, .ref h0)] [] [(mp_ob6 h0 0 q1 q2), (mp_arI E q1 0 8 (fun _ => 0)), (mp_arI E q2 0 100 g62)] 2 108
              exact mp_sub [0, 3] rfl [0, 1, 2] rfl rfl (ih5 z64 g62 (by omega) (by omega) (mp_nim_st hV_ h63 rfl (by (first | exact h8 | omega)) (by have i0 : (0 : Int32).toInt = 0 := rfl; have i1 : (1 : Int32).toInt = 1 := rfl; have i2 : (2 : Int32).toInt = 2 := rfl; exact mp_mex_of (by (first | exact mp_o2184 i2 c19 m18 c48 m47 | omega)) (by (first | exact mp_o2185 i2 c19 m18 | omega)) (by (first | exact mp_o2186 i2 c48 m47 | omega))) (by (first | exact e66 | omega))))
        · have c19 : 0 ≠ z16.toInt := c19
          show mp_W E X 4 49 [(3, .int 0), (2, .int 0), (1, .int i6), (0, .ref h0)] [] [(mp_ob6 h0 0 q1 q2), (mp_arI E q1 0 8 (fun _ => 0)), (mp_arI E q2 0 100 g7)] 2 108
          refine mp_run mp_k_cX6_init_ok hF mp_tabX6_ok [mp_i (.iload_n 2), mp_i (.aload_n 0), mp_h (.getfield 15) [2, 0], mp_i (.iload_n 1), mp_c (.iconst 2) 2, mp_i .idiv, mp_h .iaload [2], mp_h (.if_icmp .ne 6) [64]] (by decide +kernel) ?_
          refine And.intro rfl (And.intro rfl ?_)
          refine And.intro (by decide) ?_
          intro z67 h68
          have e69 : z67.toInt = i6.toInt / 2 := mp_div (a := i6.toInt) (b := 2) h68 rfl (by decide) (by (first | exact mp_o254 h8 | omega)) (by decide)
          refine And.intro rfl (And.intro rfl (And.intro (vp_in_iff.mpr (by (first | exact mp_o2177 h8 e69 h9 | omega))) ?_))
          intro z70 h71
          have m72 : z70.toInt = (g7 (i6.toInt / 2).toNat).toInt := by rw [h71, show z67.toNatClampNeg = (i6.toInt / 2).toNat by simp only [Int32.toNatClampNeg]; (first | exact mp_o814 e69 | omega)]
          refine And.intro (fun c73 => ?_) (fun c73 => ?_)
          · have c73 : 0 ≠ z70.toInt := c73
            show mp_W E X 4 64 [(3, .int 0), (2, .int 0), (1, .int i6), (0, .ref h0)] [] [(mp_ob6 h0 0 q1 q2), (mp_arI E q1 0 8 (fun _ => 0)), (mp_arI E q2 0 100 g7)] 2 108
            refine mp_run mp_k_cX6_init_ok hF mp_tabX6_ok [mp_c (.iinc 3 1) 1, mp_h (.goto (-35)) [32], mp_i (.iload_n 3), mp_c (.iconst 2) 2, mp_h (.if_icmp .ge 36) [70]] (by decide +kernel) ?_
            intro z74 h75
            obtain rfl : z74 = 1 := h75.trans (by decide)
            refine And.intro (fun c76 => absurd c76 (by decide)) (fun _ => ?_)
            show mp_W E X 4 37 [(3, .int 1), (2, .int 0), (1, .int i6), (0, .ref h0)] [] [(mp_ob6 h0 0 q1 q2), (mp_arI E q1 0 8 (fun _ => 0)), (mp_arI E q2 0 100 g7)] 2 108
            refine mp_run mp_k_cX6_init_ok hF mp_tabX6_ok [mp_i (.iload_n 2), mp_i (.aload_n 0), mp_h (.getfield 15) [2, 0], mp_i (.iload_n 1), mp_c (.iconst 1) 1, mp_i .isub, mp_h .iaload [2], mp_h (.if_icmp .eq 15) [61]] (by decide +kernel) ?_
            refine And.intro rfl (And.intro rfl ?_)
            intro z77 h78
            have e79 : z77.toInt = i6.toInt - 1 := mp_subi (a := i6.toInt) (b := 1) h78 rfl (by decide) (by (first | exact mp_o617 h8 | omega)) (by (first | exact mp_o2175 h9 | omega))
            refine And.intro rfl (And.intro rfl (And.intro (vp_in_iff.mpr (by (first | exact mp_o2176 h8 e79 h9 | omega))) ?_))
            intro z80 h81
            have m82 : z80.toInt = (g7 (i6.toInt - 1).toNat).toInt := by rw [h81, show z77.toNatClampNeg = (i6.toInt - 1).toNat by simp only [Int32.toNatClampNeg]; (first | exact mp_o812 e79 | omega)]
            refine And.intro (fun c83 => ?_) (fun c83 => ?_)
            · have c83 : 0 = z80.toInt := (congrArg Int32.toInt c83)
              show mp_W E X 4 61 [(3, .int 1), (2, .int 0), (1, .int i6), (0, .ref h0)] [] [(mp_ob6 h0 0 q1 q2), (mp_arI E q1 0 8 (fun _ => 0)), (mp_arI E q2 0 100 g7)] 2 108
              refine mp_run mp_k_cX6_init_ok hF mp_tabX6_ok [mp_c (.iinc 2 1) 1, mp_c (.iinc 3 1) 1, mp_h (.goto (-35)) [32], mp_i (.iload_n 3), mp_c (.iconst 2) 2, mp_h (.if_icmp .ge 36) [70]] (by decide +kernel) ?_
              intro z84 h85
              obtain rfl : z84 = 1 := h85.trans (by decide)
              intro z86 h87
              obtain rfl : z86 = 2 := h87.trans (by decide)
              refine And.intro (fun _ => ?_) (fun c88 => absurd c88 (by decide))
              show mp_W E X 4 70 [(3, .int 2), (2, .int 1), (1, .int i6), (0, .ref h0)] [] [(mp_ob6 h0 0 q1 q2), (mp_arI E q1 0 8 (fun _ => 0)), (mp_arI E q2 0 100 g7)] 2 108
              refine mp_run mp_k_cX6_init_ok hF mp_tabX6_ok [mp_i (.aload_n 0), mp_h (.getfield 15) [2, 0], mp_i (.iload_n 1), mp_i (.iload_n 2), mp_h .iastore [2]] (by decide +kernel) ?_
              refine And.intro rfl (And.intro rfl ?_)
              refine And.intro rfl (And.intro rfl (And.intro (vp_in_iff.mpr (by (first | exact mp_o2178 h8 h9 | omega))) ?_))
              intro g89 h90
              show mp_W E X 4 77 [(3, .int 2), (2, .int 1), (1, .int i6), (0, .ref h0)] [] [(mp_ob6 h0 0 q1 q2), (mp_arI E q1 0 8 (fun _ => 0)), (mp_arI E q2 0 100 g89)] 2 108
              refine mp_run mp_k_cX6_init_ok hF mp_tabX6_ok [mp_c (.iinc 1 1) 1, mp_h (.goto (-58)) [22]] (by decide +kernel) ?_
              intro z91 h92
              have e93 : z91.toInt = i6.toInt + 1 := mp_add (a := i6.toInt) (b := 1) h92 rfl (by decide) (by (first | exact mp_o457 h8 | omega)) (by (first | exact mp_o2179 h9 | omega))
              show mp_W E X 4 22 [(1, .int z91), (3, .int 2), (2, .int 1), (0, .ref h0)] [] [(mp_ob6 h0 0 q1 q2), (mp_arI E q1 0 8 (fun _ => 0)), (mp_arI E q2 0 100 g89)] 2 108
              exact mp_sub [0, 3] rfl [0, 1, 2] rfl rfl (ih5 z91 g89 (by (first | exact mp_o458 h8 e93 | omega)) (by (first | exact mp_o2180 h9 e93 | omega)) (mp_nim_st hV_ h90 rfl (by (first | exact h8 | omega)) (by have i0 : (0 : Int32).toInt = 0 := rfl; have i1 : (1 : Int32).toInt = 1 := rfl; have i2 : (2 : Int32).toInt = 2 := rfl; exact mp_mex_of (by (first | exact mp_o2181 i1 c83 m82 | omega)) (by (first | exact mp_o2182 i1 c83 m82 | omega)) (by (first | exact mp_o2187 c83 c19 m82 m18 | omega))) (by (first | exact e93 | omega))))
            · have c83 : 0 ≠ z80.toInt := c83
              show mp_W E X 4 49 [(3, .int 1), (2, .int 0), (1, .int i6), (0, .ref h0)] [] [(mp_ob6 h0 0 q1 q2), (mp_arI E q1 0 8 (fun _ => 0)), (mp_arI E q2 0 100 g7)] 2 108
              refine mp_run mp_k_cX6_init_ok hF mp_tabX6_ok [mp_i (.iload_n 2), mp_i (.aload_n 0), mp_h (.getfield 15) [2, 0], mp_i (.iload_n 1), mp_c (.iconst 2) 2, mp_i .idiv, mp_h .iaload [2], mp_h (.if_icmp .ne 6) [64]] (by decide +kernel) ?_
              refine And.intro rfl (And.intro rfl ?_)
              refine And.intro (by decide) ?_
              intro z94 h95
              have e96 : z94.toInt = i6.toInt / 2 := mp_div (a := i6.toInt) (b := 2) h95 rfl (by decide) (by (first | exact mp_o254 h8 | omega)) (by decide)
              refine And.intro rfl (And.intro rfl (And.intro (vp_in_iff.mpr (by (first | exact mp_o2177 h8 e96 h9 | omega))) ?_))
              intro z97 h98
              have m99 : z97.toInt = (g7 (i6.toInt / 2).toNat).toInt := by rw [h98, show z94.toNatClampNeg = (i6.toInt / 2).toNat by simp only [Int32.toNatClampNeg]; (first | exact mp_o814 e96 | omega)]
              refine And.intro (fun c100 => ?_) (fun c100 => ?_)
              · have c100 : 0 ≠ z97.toInt := c100
                show mp_W E X 4 64 [(3, .int 1), (2, .int 0), (1, .int i6), (0, .ref h0)] [] [(mp_ob6 h0 0 q1 q2), (mp_arI E q1 0 8 (fun _ => 0)), (mp_arI E q2 0 100 g7)] 2 108
                refine mp_run mp_k_cX6_init_ok hF mp_tabX6_ok [mp_c (.iinc 3 1) 1, mp_h (.goto (-35)) [32], mp_i (.iload_n 3), mp_c (.iconst 2) 2, mp_h (.if_icmp .ge 36) [70]] (by decide +kernel) ?_
                intro z101 h102
                obtain rfl : z101 = 2 := h102.trans (by decide)
                refine And.intro (fun _ => ?_) (fun c103 => absurd c103 (by decide))
                show mp_W E X 4 70 [(3, .int 2), (2, .int 0), (1, .int i6), (0, .ref h0)] [] [(mp_ob6 h0 0 q1 q2), (mp_arI E q1 0 8 (fun _ => 0)), (mp_arI E q2 0 100 g7)] 2 108
                refine mp_run mp_k_cX6_init_ok hF mp_tabX6_ok [mp_i (.aload_n 0), mp_h (.getfield 15) [2, 0], mp_i (.iload_n 1), mp_i (.iload_n 2), mp_h .iastore [2]] (by decide +kernel) ?_
                refine And.intro rfl (And.intro rfl ?_)
                refine And.intro rfl (And.intro rfl (And.intro (vp_in_iff.mpr (by (first | exact mp_o2178 h8 h9 | omega))) ?_))
                intro g104 h105
                show mp_W E X 4 77 [(3, .int 2), (2, .int 0), (1, .int i6), (0, .ref h0)] [] [(mp_ob6 h0 0 q1 q2), (mp_arI E q1 0 8 (fun _ => 0)), (mp_arI E q2 0 100 g104)] 2 108
                refine mp_run mp_k_cX6_init_ok hF mp_tabX6_ok [mp_c (.iinc 1 1) 1, mp_h (.goto (-58)) [22]] (by decide +kernel) ?_
                intro z106 h107
                have e108 : z106.toInt = i6.toInt + 1 := mp_add (a := i6.toInt) (b := 1) h107 rfl (by decide) (by (first | exact mp_o457 h8 | omega)) (by (first | exact mp_o2179 h9 | omega))
                show mp_W E X 4 22 [(1, .int z106), (3, .int 2), (2, .int 0), (0, .ref h0)] [] [(mp_ob6 h0 0 q1 q2), (mp_arI E q1 0 8 (fun _ => 0)), (mp_arI E q2 0 100 g104)] 2 108
                exact mp_sub [0, 3] rfl [0, 1, 2] rfl rfl (ih5 z106 g104 (by (first | exact mp_o458 h8 e108 | omega)) (by (first | exact mp_o2180 h9 e108 | omega)) (mp_nim_st hV_ h105 rfl (by (first | exact h8 | omega)) (by have i0 : (0 : Int32).toInt = 0 := rfl; have i1 : (1 : Int32).toInt = 1 := rfl; have i2 : (2 : Int32).toInt = 2 := rfl; exact mp_mex_of (by (first | exact mp_o2188 i0 | omega)) (by (first | exact mp_o2189 i0 c83 m82 | omega)) (by (first | exact mp_o2189 i0 c100 m99 | omega))) (by (first | exact e108 | omega))))
              · have c100 : 0 = z97.toInt := (congrArg Int32.toInt c100)
                show mp_W E X 4 61 [(3, .int 1), (2, .int 0), (1, .int i6), (0, .ref h0)] [] [(mp_ob6 h0 0 q1 q2), (mp_arI E q1 0 8 (fun _ => 0)), (mp_arI E q2 0 100 g7)] 2 108
                refine mp_run mp_k_cX6_init_ok hF mp_tabX6_ok [mp_c (.iinc 2 1) 1, mp_c (.iinc 3 1) 1, mp_h (.goto (-35)) [32], mp_i (.iload_n 3), mp_c (.iconst 2) 2, mp_h (.if_icmp .ge 36) [70]] (by decide +kernel) ?_
                intro z109 h110
                obtain rfl : z109 = 1 := h110.trans (by decide)
                intro z111 h112
                obtain rfl : z111 = 2 := h112.trans (by decide)
                refine And.intro (fun _ => ?_) (fun c113 => absurd c113 (by decide))
                show mp_W E X 4 70 [(3, .int 2), (2, .int 1), (1, .int i6), (0, .ref h0)] [] [(mp_ob6 h0 0 q1 q2), (mp_arI E q1 0 8 (fun _ => 0)), (mp_arI E q2 0 100 g7)] 2 108
                refine mp_run mp_k_cX6_init_ok hF mp_tabX6_ok [mp_i (.aload_n 0), mp_h (.getfield 15) [2, 0], mp_i (.iload_n 1), mp_i (.iload_n 2), mp_h .iastore [2]] (by decide +kernel) ?_
                refine And.intro rfl (And.intro rfl ?_)
                refine And.intro rfl (And.intro rfl (And.intro (vp_in_iff.mpr (by (first | exact mp_o2178 h8 h9 | omega))) ?_))
                intro g114 h115
                show mp_W E X 4 77 [(3, .int 2), (2, .int 1), (1, .int i6), (0, .ref h0)] [] [(mp_ob6 h0 0 q1 q2), (mp_arI E q1 0 8 (fun _ => 0)), (mp_arI E q2 0 100 g114)] 2 108
                refine mp_run mp_k_cX6_init_ok hF mp_tabX6_ok [mp_c (.iinc 1 1) 1, mp_h (.goto (-58)) [22]] (by decide +kernel) ?_
                intro z116 h117
                have e118 : z116.toInt = i6.toInt + 1 := mp_add (a := i6.toInt) (b := 1) h117 rfl (by decide) (by (first | exact mp_o457 h8 | omega)) (by (first | exact mp_o2179 h9 | omega))
                show mp_W E X 4 22 [(1, .int z116), (3, .int 2), (2, .int 1), (0, .ref h0)] [] [(mp_ob6 h0 0 q1 q2), (mp_arI E q1 0 8 (fun _ => 0)), (mp_arI E q2 0 100 g114)] 2 108
                exact mp_sub [0, 3] rfl [0, 1, 2] rfl rfl (ih5 z116 g114 (by omega) (by omega) (mp_nim_st hV_ h115 rfl (by (first | exact h8 | omega)) (by have i0 : (0 : Int32).toInt = 0 := rfl; have i1 : (1 : Int32).toInt = 1 := rfl; have i2 : (2 : Int32).toInt = 2 := rfl; exact mp_mex_of (by (first | exact mp_o2190 i1 c100 m99 | omega)) (by (first | exact mp_o2187 c100 c73 m99 m72 | omega)) (by (first | exact mp_o2182 i1 c100 m99 | omega))) (by (first | exact e118 | omega))))
          · have c73 : 0 = z70.toInt := (congrArg Int32.toInt c73)
            show mp_W E X 4 61 [(3, .int 0), (2, .int 0), (1, .int i6), (0, .ref h0)] [] [(mp_ob6 h0 0 q1 q2), (mp_arI E q1 0 8 (fun _ => 0)), (mp_arI E q2 0 100 g7)] 2 108
            refine mp_run mp_k_cX6_init_ok hF mp_tabX6_ok [mp_c (.iinc 2 1) 1, mp_c (.iinc 3 1) 1, mp_h (.goto (-35)) [32], mp_i (.iload_n 3), mp_c (.iconst 2) 2, mp_h (.if_icmp .ge 36) [70]] (by decide +kernel) ?_
            intro z119 h120
            obtain rfl : z119 = 1 := h120.trans (by decide)
            intro z121 h122
            obtain rfl : z121 = 1 := h122.trans (by decide)
            refine And.intro (fun c123 => absurd c123 (by decide)) (fun _ => ?_)
            show mp_W E X 4 37 [(3, .int 1), (2, .int 1), (1, .int i6), (0, .ref h0)] [] [(mp_ob6 h0 0 q1 q2), (mp_arI E q1 0 8 (fun _ => 0)), (mp_arI E q2 0 100 g7)] 2 108
            refine mp_run mp_k_cX6_init_ok hF mp_tabX6_ok [mp_i (.iload_n 2), mp_i (.aload_n 0), mp_h (.getfield 15) [2, 0], mp_i (.iload_n 1), mp_c (.iconst 1) 1, mp_i .isub, mp_h .iaload [2], mp_h (.if_icmp .eq 15) [61]] (by decide +kernel) ?_
            refine And.intro rfl (And.intro rfl ?_)
            intro z124 h125
            have e126 : z124.toInt = i6.toInt - 1 := mp_subi (a := i6.toInt) (b := 1) h125 rfl (by decide) (by (first | exact mp_o617 h8 | omega)) (by (first | exact mp_o2175 h9 | omega))
            refine And.intro rfl (And.intro rfl (And.intro (vp_in_iff.mpr (by omega)) ?_))
            intro z127 h128
            have m129 : z127.toInt = (g7 (i6.toInt - 1).toNat).toInt := by rw [h128, show z124.toNatClampNeg = (i6.toInt - 1).toNat by simp only [Int32.toNatClampNeg]; omega]
            refine And.intro (fun c130 => ?_) (fun c130 => ?_)
            · have c130 : 1 = z127.toInt := (congrArg Int32.toInt c130)
              show mp_W E X 4 61 [(3, .int 1), (2, .int 1), (1, .int i6), (0, .ref h0)] [] [(mp_ob6 h0 0 q1 q2), (mp_arI E q1 0 8 (fun _ => 0)), (mp_arI E q2 0 100 g7)] 2 108
              refine mp_run mp_k_cX6_init_ok hF mp_tabX6_ok [mp_c (.iinc 2 1) 1, mp_c (.iinc 3 1) 1, mp_h (.goto (-35)) [32], mp_i (.iload_n 3), mp_c (.iconst 2) 2, mp_h (.if_icmp .ge 36) [70]] (by decide +kernel) ?_
              intro z131 h132
              obtain rfl : z131 = 2 := h132.trans (by decide)
              intro z133 h134
              obtain rfl : z133 = 2 := h134.trans (by decide)
              refine And.intro (fun _ => ?_) (fun c135 => absurd c135 (by decide))
              show mp_W E X 4 70 [(3, .int 2), (2, .int 2), (1, .int i6), (0, .ref h0)] [] [(mp_ob6 h0 0 q1 q2), (mp_arI E q1 0 8 (fun _ => 0)), (mp_arI E q2 0 100 g7)] 2 108
              refine mp_run mp_k_cX6_init_ok hF mp_tabX6_ok [mp_i (.aload_n 0), mp_h (.getfield 15) [2, 0], mp_i (.iload_n 1), mp_i (.iload_n 2), mp_h .iastore [2]] (by decide +kernel) ?_
              refine And.intro rfl (And.intro rfl ?_)
              refine And.intro rfl (And.intro rfl (And.intro (vp_in_iff.mpr (by omega)) ?_))
              intro g136 h137
              show mp_W E X 4 77 [(3, .int 2), (2, .int 2), (1, .int i6), (0, .ref h0)] [] [(mp_ob6 h0 0 q1 q2), (mp_arI E q1 0 8 (fun _ => 0)), (mp_arI E q2 0 100 g136)] 2 108
              refine mp_run mp_k_cX6_init_ok hF mp_tabX6_ok [mp_c (.iinc 1 1) 1, mp_h (.goto (-58)) [22]] (by decide +kernel) ?_
              intro z138 h139
              have e140 : z138.toInt = i6.toInt + 1 := mp_add (a := i6.toInt) (b := 1) h139 rfl (by decide) (by omega) (by omega)
              show mp_W E X 4 22 [(1, .int z138), (3, .int 2), (2, .int 2), (0, .ref h0)] [] [(mp_ob6 h0 0 q1 q2), (mp_arI E q1 0 8 (fun _ => 0)), (mp_arI E q2 0 100 g136)] 2 108
              exact mp_sub [0, 3] rfl [0, 1, 2] rfl rfl (ih5 z138 g136 (by omega) (by omega) (mp_nim_st hV_ h137 rfl (by (first | exact h8 | omega)) (by have i0 : (0 : Int32).toInt = 0 := rfl; have i1 : (1 : Int32).toInt = 1 := rfl; have i2 : (2 : Int32).toInt = 2 := rfl; exact mp_mex_of (by (first | exact mp_o2191 i2 c73 m72 c130 m129 | omega)) (by (first | exact mp_o2186 i2 c130 m129 | omega)) (by (first | exact mp_o2185 i2 c73 m72 | omega))) (by (first | exact e140 | omega))))
            · have c130 : 1 ≠ z127.toInt := c130
              show mp_W E X 4 49 [(3, .int 1), (2, .int 1), (1, .int i6), (0, .ref h0)] [] [(mp_ob6 h0 0 q1 q2), (mp_arI E q1 0 8 (fun _ => 0)), (mp_arI E q2 0 100 g7)] 2 108
              refine mp_run mp_k_cX6_init_ok hF mp_tabX6_ok [mp_i (.iload_n 2), mp_i (.aload_n 0), mp_h (.getfield 15) [2, 0], mp_i (.iload_n 1), mp_c (.iconst 2) 2, mp_i .idiv, mp_h .iaload [2], mp_h (.if_icmp .ne 6) [64]] (by decide +kernel) ?_
              refine And.intro rfl (And.intro rfl ?_)
              refine And.intro (by decide) ?_
              intro z141 h142
              have e143 : z141.toInt = i6.toInt / 2 := mp_div (a := i6.toInt) (b := 2) h142 rfl (by decide) (by omega) (by decide)
              refine And.intro rfl (And.intro rfl (And.intro (vp_in_iff.mpr (by omega)) ?_))
              intro z144 h145
              have m146 : z144.toInt = (g7 (i6.toInt / 2).toNat).toInt := by rw [h145, show z141.toNatClampNeg = (i6.toInt / 2).toNat by simp only [Int32.toNatClampNeg]; omega]
              refine And.intro (fun c147 => ?_) (fun c147 => ?_)
              · have c147 : 1 ≠ z144.toInt := c147
                show mp_W E X 4 64 [(3, .int 1), (2, .int 1), (1, .int i6), (0, .ref h0)] [] [(mp_ob6 h0 0 q1 q2), (mp_arI E q1 0 8 (fun _ => 0)), (mp_arI E q2 0 100 g7)] 2 108
                refine mp_run mp_k_cX6_init_ok hF mp_tabX6_ok [mp_c (.iinc 3 1) 1, mp_h (.goto (-35)) [32], mp_i (.iload_n 3), mp_c (.iconst 2) 2, mp_h (.if_icmp .ge 36) [70]] (by decide +kernel) ?_
                intro z148 h149
                obtain rfl : z148 = 2 := h149.trans (by decide)
                refine And.intro (fun _ => ?_) (fun c150 => absurd c150 (by decide))
                show mp_W E X 4 70 [(3, .int 2), (2, .int 1), (1, .int i6), (0, .ref h0)] [] [(mp_ob6 h0 0 q1 q2), (mp_arI E q1 0 8 (fun _ => 0)), (mp_arI E q2 0 100 g7)] 2 108
                refine mp_run mp_k_cX6_init_ok hF mp_tabX6_ok [mp_i (.aload_n 0), mp_h (.getfield 15) [2, 0], mp_i (.iload_n 1), mp_i (.iload_n 2), mp_h .iastore [2]] (by decide +kernel) ?_
                refine And.intro rfl (And.intro rfl ?_)
                refine And.intro rfl (And.intro rfl (And.intro (vp_in_iff.mpr (by omega)) ?_))
                intro g151 h152
                show mp_W E X 4 77 [(3, .int 2), (2, .int 1), (1, .int i6), (0, .ref h0)] [] [(mp_ob6 h0 0 q1 q2), (mp_arI E q1 0 8 (fun _ => 0)), (mp_arI E q2 0 100 g151)] 2 108
                refine mp_run mp_k_cX6_init_ok hF mp_tabX6_ok [mp_c (.iinc 1 1) 1, mp_h (.goto (-58)) [22]] (by decide +kernel) ?_
                intro z153 h154
                have e155 : z153.toInt = i6.toInt + 1 := mp_add (a := i6.toInt) (b := 1) h154 rfl (by decide) (by omega) (by omega)
                show mp_W E X 4 22 [(1, .int z153), (3, .int 2), (2, .int 1), (0, .ref h0)] [] [(mp_ob6 h0 0 q1 q2), (mp_arI E q1 0 8 (fun _ => 0)), (mp_arI E q2 0 100 g151)] 2 108
                exact mp_sub [0, 3] rfl [0, 1, 2] rfl rfl (ih5 z153 g151 (by omega) (by omega) (mp_nim_st hV_ h152 rfl (by (first | exact h8 | omega)) (by have i0 : (0 : Int32).toInt = 0 := rfl; have i1 : (1 : Int32).toInt = 1 := rfl; have i2 : (2 : Int32).toInt = 2 := rfl; exact mp_mex_of (by (first | exact mp_o2190 i1 c73 m72 | omega)) (by (first | exact mp_o2183 i1 c130 m129 | omega)) (by (first | exact mp_o2182 i1 c73 m72 | omega))) (by (first | exact e155 | omega))))
              · have c147 : 1 = z144.toInt := (congrArg Int32.toInt c147)
                show mp_W E X 4 61 [(3, .int 1), (2, .int 1), (1, .int i6), (0, .ref h0)] [] [(mp_ob6 h0 0 q1 q2), (mp_arI E q1 0 8 (fun _ => 0)), (mp_arI E q2 0 100 g7)] 2 108
                refine mp_run mp_k_cX6_init_ok hF mp_tabX6_ok [mp_c (.iinc 2 1) 1, mp_c (.iinc 3 1) 1, mp_h (.goto (-35)) [32], mp_i (.iload_n 3), mp_c (.iconst 2) 2, mp_h (.if_icmp .ge 36) [70]] (by decide +kernel) ?_
                intro z156 h157
                obtain rfl : z156 = 2 := h157.trans (by decide)
                intro z158 h159
                obtain rfl : z158 = 2 := h159.trans (by decide)
                refine And.intro (fun _ => ?_) (fun c160 => absurd c160 (by decide))
                show mp_W E X 4 70 [(3, .int 2), (2, .int 2), (1, .int i6), (0, .ref h0)] [] [(mp_ob6 h0 0 q1 q2), (mp_arI E q1 0 8 (fun _ => 0)), (mp_arI E q2 0 100 g7)] 2 108
                refine mp_run mp_k_cX6_init_ok hF mp_tabX6_ok [mp_i (.aload_n 0), mp_h (.getfield 15) [2, 0], mp_i (.iload_n 1), mp_i (.iload_n 2), mp_h .iastore [2]] (by decide +kernel) ?_
                refine And.intro rfl (And.intro rfl ?_)
                refine And.intro rfl (And.intro rfl (And.intro (vp_in_iff.mpr (by omega)) ?_))
                intro g161 h162
                show mp_W E X 4 77 [(3, .int 2), (2, .int 2), (1, .int i6), (0, .ref h0)] [] [(mp_ob6 h0 0 q1 q2), (mp_arI E q1 0 8 (fun _ => 0)), (mp_arI E q2 0 100 g161)] 2 108
                refine mp_run mp_k_cX6_init_ok hF mp_tabX6_ok [mp_c (.iinc 1 1) 1, mp_h (.goto (-58)) [22]] (by decide +kernel) ?_
                intro z163 h164
                have e165 : z163.toInt = i6.toInt + 1 := mp_add (a := i6.toInt) (b := 1) h164 rfl (by decide) (by omega) (by omega)
                show mp_W E X 4 22 [(1, .int z163), (3, .int 2), (2, .int 2), (0, .ref h0)] [] [(mp_ob6 h0 0 q1 q2), (mp_arI E q1 0 8 (fun _ => 0)), (mp_arI E q2 0 100 g161)] 2 108
                exact mp_sub [0, 3] rfl [0, 1, 2] rfl rfl (ih5 z163 g161 (by omega) (by omega) (mp_nim_st hV_ h162 rfl (by (first | exact h8 | omega)) (by have i0 : (0 : Int32).toInt = 0 := rfl; have i1 : (1 : Int32).toInt = 1 := rfl; have i2 : (2 : Int32).toInt = 2 := rfl; exact mp_mex_of (by omega) (by omega) (by omega)) (by (first | exact e165 | omega))))
  exact mp_sub [0, 1] rfl [0, 1, 2] rfl rfl (lp3 99 1 ((fun _ => 0)) (by decide) (by decide) (fun j hj => by rw [show j = 0 from by have i1 : (1 : Int32).toInt = 1 := rfl; (first | exact mp_o2192 hj i1 | omega)]; rfl))

set_option maxHeartbeats 4000000 in
set_option maxRecDepth 100000 in
theorem k_Model (E : mp_E) (h0 : Nat) : mp_Ct E yX10_init cX10_init 2 none 1 25 7624 12 [.ref h0] [(h0, .inr (10, [.int 0, .null, .null, .null, .null, .null, .int 0, .int 0, .int 0, .int 0, .int 0, .long 0, .int 0, .int 0, .int 0, .int 0, .null, .null, .null, .null, .null, .null, .null, .null, .int 0, .null, .null, .null, .null, .int 0, .int 0, .int 0, .null, .null, .int 0, .int 0, .null, .null, .null, .int 0, .int 0, .int 0, .int 0, .null, .null, .null, .int 0]))] (fun v w' => v = none ∧ ∃ b : Nat → Nat, ∃ wd : Nat → Int32, b 0 = h0 ∧ (∀ j, j < 4 → wd j = -1) ∧ w' = [(mp_ob10 h0 0 (b 1) (b 2) (b 3) (b 4) (b 5) 0 0 0 0 0 0 0 0 0 (-1) (b 6) (b 7) (b 8) (b 9) (b 10) (b 11) (b 12) (b 13) 0 (b 14) (b 15) (b 16) (b 17) 0 0 0 (b 18) (b 19) 0 0 (b 20) (b 21) (b 22) 0 0 0 0 (b 23) (b 24) (b 25) 0), (mp_arI E (b 1) 0 4 wd), (mp_arI E (b 2) 0 4 (fun _ => 0)), (mp_arL E (b 3) 240 (fun _ => 0)), (mp_arL E (b 4) 60 (fun _ => 0)), (mp_arI E (b 5) 1 1600 (fun _ => 0)), (mp_arI E (b 6) 0 5 (fun _ => 0)), (mp_arI E (b 7) 0 25 (fun _ => 0)), (mp_arI E (b 8) 0 180 (fun _ => 0)), (mp_arI E (b 9) 3 3000 (fun _ => 0)), (mp_arI E (b 10) 0 90 (fun _ => 0)), (mp_arI E (b 11) 0 300 (fun _ => 0)), (mp_arI E (b 12) 0 300 (fun _ => 0)), (mp_arI E (b 13) 3 3 (fun _ => 0)), (mp_arI E (b 14) 0 6 (fun _ => 0)), (mp_arI E (b 15) 0 6 (fun _ => 0)), (mp_arI E (b 16) 0 6 (fun _ => 0)), (mp_arI E (b 17) 3 1500 (fun _ => 0)), (mp_arI E (b 18) 0 78 (fun _ => 0)), (mp_arL E (b 19) 78 (fun _ => 0)), (mp_arI E (b 20) 0 6 (fun _ => 0)), (mp_arI E (b 21) 0 6 (fun _ => 0)), (mp_arI E (b 22) 0 3 (fun _ => 0)), (mp_arI E (b 23) 0 12 (fun _ => 0)), (mp_arI E (b 24) 0 12 (fun _ => 0)), (mp_arI E (b 25) 0 100 (fun _ => 0))]) := by
  refine mp_met true (by decide) (by decide) (Nat.le_of_ble_eq_true rfl) (fun X hF hQ => ?_)
  have hF : mp_F E X (RX10, cX10_init, 2, (1, 25, 7624, 12), none, true) := hF
  let w1_ : va_W := [(h0, .inr (10, [.int 0, .null, .null, .null, .null, .null, .int 0, .int 0, .int 0, .int 0, .int 0, .long 0, .int 0, .int 0, .int 0, .int 0, .null, .null, .null, .null, .null, .null, .null, .null, .int 0, .null, .null, .null, .null, .int 0, .int 0, .int 0, .null, .null, .int 0, .int 0, .null, .null, .null, .int 0, .int 0, .int 0, .int 0, .null, .null, .null, .int 0]))]
  show mp_W E X 2 0 [(0, .ref h0)] [] w1_ 0 0
  refine mp_run mp_k_cX10_init_ok hF mp_tabX10_ok [mp_i (.aload_n 0)] (by decide +kernel) ?_
  show mp_W E X 2 1 [(0, .ref h0)] [.ref h0] w1_ 0 0
  refine mp_objInit hF (idx := 1) (mp_gm (j := 6010) (by decide +kernel)) ⟨(Nat.le_of_ble_eq_true rfl), (Nat.le_of_ble_eq_true rfl)⟩ (by first | exact mp_fd_ok mp_k_cX10_init_ok (by decide +kernel) | decide +kernel) ?_
  show mp_W E X 2 4 [(0, .ref h0)] [] w1_ 0 0
  refine mp_run mp_k_cX10_init_ok hF mp_tabX10_ok [mp_i (.aload_n 0), mp_c (.iconst 4) 4, mp_h (.newarray .int) [4], mp_h (.putfield 7) [1, 0]] (by decide +kernel) ?_
  refine And.intro (by decide) (And.intro (Nat.le_of_ble_eq_true rfl) (And.intro (Nat.le_of_ble_eq_true rfl) (And.intro (by decide) ?_)))
  intro q1
  refine And.intro rfl (And.intro rfl (And.intro rfl (And.intro rfl (And.intro (Nat.le_of_ble_eq_true rfl) ?_))))
  let w2_ : va_W := [(h0, .inr (10, [.int 0, .ref q1, .null, .null, .null, .null, .int 0, .int 0, .int 0, .int 0, .int 0, .long 0, .int 0, .int 0, .int 0, .int 0, .null, .null, .null, .null, .null, .null, .null, .null, .int 0, .null, .null, .null, .null, .int 0, .int 0, .int 0, .null, .null, .int 0, .int 0, .null, .null, .null, .int 0, .int 0, .int 0, .int 0, .null, .null, .null, .int 0])), (mp_arI E q1 0 4 (fun _ => 0))]
  show mp_W E X 2 11 [(0, .ref h0)] [] w2_ 1 4
  refine mp_run mp_k_cX10_init_ok hF mp_tabX10_ok [mp_i (.aload_n 0), mp_c (.iconst 4) 4, mp_h (.newarray .int) [4], mp_h (.putfield 13) [2, 0]] (by decide +kernel) ?_
  refine And.intro (by decide) (And.intro (Nat.le_of_ble_eq_true rfl) (And.intro (Nat.le_of_ble_eq_true rfl) (And.intro (by decide) ?_)))
  intro q2
  refine And.intro rfl (And.intro rfl (And.intro rfl (And.intro rfl (And.intro (Nat.le_of_ble_eq_true rfl) ?_))))
  let w3_ : va_W := [(h0, .inr (10, [.int 0, .ref q1, .ref q2, .null, .null, .null, .int 0, .int 0, .int 0, .int 0, .int 0, .long 0, .int 0, .int 0, .int 0, .int 0, .null, .null, .null, .null, .null, .null, .null, .null, .int 0, .null, .null, .null, .null, .int 0, .int 0, .int 0, .null, .null, .int 0, .int 0, .null, .null, .null, .int 0, .int 0, .int 0, .int 0, .null, .null, .null, .int 0])), (mp_arI E q1 0 4 (fun _ => 0)), (mp_arI E q2 0 4 (fun _ => 0))]
  show mp_W E X 2 18 [(0, .ref h0)] [] w3_ 2 8
  refine mp_run mp_k_cX10_init_ok hF mp_tabX10_ok [mp_i (.aload_n 0), mp_c (.sipush 240) 240, mp_h (.newarray .long) [240], mp_h (.putfield 16) [3, 0]] (by decide +kernel) ?_
  refine And.intro (by decide) (And.intro (Nat.le_of_ble_eq_true rfl) (And.intro (Nat.le_of_ble_eq_true rfl) (And.intro (by decide) ?_)))
  intro q3
  refine And.intro rfl (And.intro rfl (And.intro rfl (And.intro rfl (And.intro (Nat.le_of_ble_eq_true rfl) ?_))))
  let w4_ : va_W := [(h0, .inr (10, [.int 0, .ref q1, .ref q2, .ref q3, .null, .null, .int 0, .int 0, .int 0, .int 0, .int 0, .long 0, .int 0, .int 0, .int 0, .int 0, .null, .null, .null, .null, .null, .null, .null, .null, .int 0, .null, .null, .null, .null, .int 0, .int 0, .int 0, .null, .null, .int 0, .int 0, .null, .null, .null, .int 0, .int 0, .int 0, .int 0, .null, .null, .null, .int 0])), (mp_arI E q1 0 4 (fun _ => 0)), (mp_arI E q2 0 4 (fun _ => 0)), (mp_arL E q3 240 (fun _ => 0))]
  show mp_W E X 2 27 [(0, .ref h0)] [] w4_ 3 248
  refine mp_run mp_k_cX10_init_ok hF mp_tabX10_ok [mp_i (.aload_n 0), mp_c (.bipush 60) 60, mp_h (.newarray .long) [60], mp_h (.putfield 20) [4, 0]] (by decide +kernel) ?_
  refine And.intro (by decide) (And.intro (Nat.le_of_ble_eq_true rfl) (And.intro (Nat.le_of_ble_eq_true rfl) (And.intro (by decide) ?_)))
  intro q4
  refine And.intro rfl (And.intro rfl (And.intro rfl (And.intro rfl (And.intro (Nat.le_of_ble_eq_true rfl) ?_))))
  let w5_ : va_W := [(h0, .inr (10, [.int 0, .ref q1, .ref q2, .ref q3, .ref q4, .null, .int 0, .int 0, .int 0, .int 0, .int 0, .long 0, .int 0, .int 0, .int 0, .int 0, .null, .null, .null, .null, .null, .null, .null, .null, .int 0, .null, .null, .null, .null, .int 0, .int 0, .int 0, .null, .null, .int 0, .int 0, .null, .null, .null, .int 0, .int 0, .int 0, .int 0, .null, .null, .null, .int 0])), (mp_arI E q1 0 4 (fun _ => 0)), (mp_arI E q2 0 4 (fun _ => 0)), (mp_arL E q3 240 (fun _ => 0)), (mp_arL E q4 60 (fun _ => 0))]
  show mp_W E X 2 35 [(0, .ref h0)] [] w5_ 4 308
  refine mp_run mp_k_cX10_init_ok hF mp_tabX10_ok [mp_i (.aload_n 0), mp_c (.sipush 1600) 1600, mp_h (.newarray .byte) [1600], mp_h (.putfield 23) [5, 0]] (by decide +kernel) ?_
  refine And.intro (by decide) (And.intro (Nat.le_of_ble_eq_true rfl) (And.intro (Nat.le_of_ble_eq_true rfl) (And.intro (by decide) ?_)))
  intro q5
  refine And.intro rfl (And.intro rfl (And.intro rfl (And.intro rfl (And.intro (Nat.le_of_ble_eq_true rfl) ?_))))
  let w6_ : va_W := [(h0, .inr (10, [.int 0, .ref q1, .ref q2, .ref q3, .ref q4, .ref q5, .int 0, .int 0, .int 0, .int 0, .int 0, .long 0, .int 0, .int 0, .int 0, .int 0, .null, .null, .null, .null, .null, .null, .null, .null, .int 0, .null, .null, .null, .null, .int 0, .int 0, .int 0, .null, .null, .int 0, .int 0, .null, .null, .null, .int 0, .int 0, .int 0, .int 0, .null, .null, .null, .int 0])), (mp_arI E q1 0 4 (fun _ => 0)), (mp_arI E q2 0 4 (fun _ => 0)), (mp_arL E q3 240 (fun _ => 0)), (mp_arL E q4 60 (fun _ => 0)), (mp_arI E q5 1 1600 (fun _ => 0))]
  show mp_W E X 2 44 [(0, .ref h0)] [] w6_ 5 1908
  refine mp_run mp_k_cX10_init_ok hF mp_tabX10_ok [mp_i (.aload_n 0), mp_c (.iconst (-1)) (-1), mp_h (.putfield 27) [15, 0]] (by decide +kernel) ?_
  refine And.intro rfl (And.intro rfl (And.intro rfl (And.intro rfl (And.intro (Nat.le_of_ble_eq_true rfl) ?_))))
  let w7_ : va_W := [(h0, .inr (10, [.int 0, .ref q1, .ref q2, .ref q3, .ref q4, .ref q5, .int 0, .int 0, .int 0, .int 0, .int 0, .long 0, .int 0, .int 0, .int 0, .int (-1), .null, .null, .null, .null, .null, .null, .null, .null, .int 0, .null, .null, .null, .null, .int 0, .int 0, .int 0, .null, .null, .int 0, .int 0, .null, .null, .null, .int 0, .int 0, .int 0, .int 0, .null, .null, .null, .int 0])), (mp_arI E q1 0 4 (fun _ => 0)), (mp_arI E q2 0 4 (fun _ => 0)), (mp_arL E q3 240 (fun _ => 0)), (mp_arL E q4 60 (fun _ => 0)), (mp_arI E q5 1 1600 (fun _ => 0))]
  show mp_W E X 2 49 [(0, .ref h0)] [] w7_ 5 1908
  refine mp_run mp_k_cX10_init_ok hF mp_tabX10_ok [mp_i (.aload_n 0), mp_c (.iconst 5) 5, mp_h (.newarray .int) [5], mp_h (.putfield 31) [16, 0]] (by decide +kernel) ?_
  refine And.intro (by decide) (And.intro (Nat.le_of_ble_eq_true rfl) (And.intro (Nat.le_of_ble_eq_true rfl) (And.intro (by decide) ?_)))
  intro q6
  refine And.intro rfl (And.intro rfl (And.intro rfl (And.intro rfl (And.intro (Nat.le_of_ble_eq_true rfl) ?_))))
  let w8_ : va_W := [(h0, .inr (10, [.int 0, .ref q1, .ref q2, .ref q3, .ref q4, .ref q5, .int 0, .int 0, .int 0, .int 0, .int 0, .long 0, .int 0, .int 0, .int 0, .int (-1), .ref q6, .null, .null, .null, .null, .null, .null, .null, .int 0, .null, .null, .null, .null, .int 0, .int 0, .int 0, .null, .null, .int 0, .int 0, .null, .null, .null, .int 0, .int 0, .int 0, .int 0, .null, .null, .null, .int 0])), (mp_arI E q1 0 4 (fun _ => 0)), (mp_arI E q2 0 4 (fun _ => 0)), (mp_arL E q3 240 (fun _ => 0)), (mp_arL E q4 60 (fun _ => 0)), (mp_arI E q5 1 1600 (fun _ => 0)), (mp_arI E q6 0 5 (fun _ => 0))]
  show mp_W E X 2 56 [(0, .ref h0)] [] w8_ 6 1913
  refine mp_run mp_k_cX10_init_ok hF mp_tabX10_ok [mp_i (.aload_n 0), mp_c (.bipush 25) 25, mp_h (.newarray .int) [25], mp_h (.putfield 34) [17, 0]] (by decide +kernel) ?_
  refine And.intro (by decide) (And.intro (Nat.le_of_ble_eq_true rfl) (And.intro (Nat.le_of_ble_eq_true rfl) (And.intro (by decide) ?_)))
  intro q7
  refine And.intro rfl (And.intro rfl (And.intro rfl (And.intro rfl (And.intro (Nat.le_of_ble_eq_true rfl) ?_))))
  let w9_ : va_W := [(h0, .inr (10, [.int 0, .ref q1, .ref q2, .ref q3, .ref q4, .ref q5, .int 0, .int 0, .int 0, .int 0, .int 0, .long 0, .int 0, .int 0, .int 0, .int (-1), .ref q6, .ref q7, .null, .null, .null, .null, .null, .null, .int 0, .null, .null, .null, .null, .int 0, .int 0, .int 0, .null, .null, .int 0, .int 0, .null, .null, .null, .int 0, .int 0, .int 0, .int 0, .null, .null, .null, .int 0])), (mp_arI E q1 0 4 (fun _ => 0)), (mp_arI E q2 0 4 (fun _ => 0)), (mp_arL E q3 240 (fun _ => 0)), (mp_arL E q4 60 (fun _ => 0)), (mp_arI E q5 1 1600 (fun _ => 0)), (mp_arI E q6 0 5 (fun _ => 0)), (mp_arI E q7 0 25 (fun _ => 0))]
  show mp_W E X 2 64 [(0, .ref h0)] [] w9_ 7 1938
  refine mp_run mp_k_cX10_init_ok hF mp_tabX10_ok [mp_i (.aload_n 0), mp_c (.sipush 180) 180, mp_h (.newarray .int) [180], mp_h (.putfield 37) [18, 0]] (by decide +kernel) ?_
  refine And.intro (by decide) (And.intro (Nat.le_of_ble_eq_true rfl) (And.intro (Nat.le_of_ble_eq_true rfl) (And.intro (by decide) ?_)))
  intro q8
  refine And.intro rfl (And.intro rfl (And.intro rfl (And.intro rfl (And.intro (Nat.le_of_ble_eq_true rfl) ?_))))
  let w10_ : va_W := [(h0, .inr (10, [.int 0, .ref q1, .ref q2, .ref q3, .ref q4, .ref q5, .int 0, .int 0, .int 0, .int 0, .int 0, .long 0, .int 0, .int 0, .int 0, .int (-1), .ref q6, .ref q7, .ref q8, .null, .null, .null, .null, .null, .int 0, .null, .null, .null, .null, .int 0, .int 0, .int 0, .null, .null, .int 0, .int 0, .null, .null, .null, .int 0, .int 0, .int 0, .int 0, .null, .null, .null, .int 0])), (mp_arI E q1 0 4 (fun _ => 0)), (mp_arI E q2 0 4 (fun _ => 0)), (mp_arL E q3 240 (fun _ => 0)), (mp_arL E q4 60 (fun _ => 0)), (mp_arI E q5 1 1600 (fun _ => 0)), (mp_arI E q6 0 5 (fun _ => 0)), (mp_arI E q7 0 25 (fun _ => 0)), (mp_arI E q8 0 180 (fun _ => 0))]
  show mp_W E X 2 73 [(0, .ref h0)] [] w10_ 8 2118
  refine mp_run mp_k_cX10_init_ok hF mp_tabX10_ok [mp_i (.aload_n 0), mp_c (.sipush 3000) 3000, mp_h (.newarray .boolean) [3000], mp_h (.putfield 40) [19, 0]] (by decide +kernel) ?_
  refine And.intro (by decide) (And.intro (Nat.le_of_ble_eq_true rfl) (And.intro (Nat.le_of_ble_eq_true rfl) (And.intro (by decide) ?_)))
  intro q9
  refine And.intro rfl (And.intro rfl (And.intro rfl (And.intro rfl (And.intro (Nat.le_of_ble_eq_true rfl) ?_))))
  let w11_ : va_W := [(h0, .inr (10, [.int 0, .ref q1, .ref q2, .ref q3, .ref q4, .ref q5, .int 0, .int 0, .int 0, .int 0, .int 0, .long 0, .int 0, .int 0, .int 0, .int (-1), .ref q6, .ref q7, .ref q8, .ref q9, .null, .null, .null, .null, .int 0, .null, .null, .null, .null, .int 0, .int 0, .int 0, .null, .null, .int 0, .int 0, .null, .null, .null, .int 0, .int 0, .int 0, .int 0, .null, .null, .null, .int 0])), (mp_arI E q1 0 4 (fun _ => 0)), (mp_arI E q2 0 4 (fun _ => 0)), (mp_arL E q3 240 (fun _ => 0)), (mp_arL E q4 60 (fun _ => 0)), (mp_arI E q5 1 1600 (fun _ => 0)), (mp_arI E q6 0 5 (fun _ => 0)), (mp_arI E q7 0 25 (fun _ => 0)), (mp_arI E q8 0 180 (fun _ => 0)), (mp_arI E q9 3 3000 (fun _ => 0))]
  show mp_W E X 2 82 [(0, .ref h0)] [] w11_ 9 5118
  refine mp_run mp_k_cX10_init_ok hF mp_tabX10_ok [mp_i (.aload_n 0), mp_c (.bipush 90) 90, mp_h (.newarray .int) [90], mp_h (.putfield 44) [20, 0]] (by decide +kernel) ?_
  refine And.intro (by decide) (And.intro (Nat.le_of_ble_eq_true rfl) (And.intro (Nat.le_of_ble_eq_true rfl) (And.intro (by decide) ?_)))
  intro q10
  refine And.intro rfl (And.intro rfl (And.intro rfl (And.intro rfl (And.intro (Nat.le_of_ble_eq_true rfl) ?_))))
  let w12_ : va_W := [(h0, .inr (10, [.int 0, .ref q1, .ref q2, .ref q3, .ref q4, .ref q5, .int 0, .int 0, .int 0, .int 0, .int 0, .long 0, .int 0, .int 0, .int 0, .int (-1), .ref q6, .ref q7, .ref q8, .ref q9, .ref q10, .null, .null, .null, .int 0, .null, .null, .null, .null, .int 0, .int 0, .int 0, .null, .null, .int 0, .int 0, .null, .null, .null, .int 0, .int 0, .int 0, .int 0, .null, .null, .null, .int 0])), (mp_arI E q1 0 4 (fun _ => 0)), (mp_arI E q2 0 4 (fun _ => 0)), (mp_arL E q3 240 (fun _ => 0)), (mp_arL E q4 60 (fun _ => 0)), (mp_arI E q5 1 1600 (fun _ => 0)), (mp_arI E q6 0 5 (fun _ => 0)), (mp_arI E q7 0 25 (fun _ => 0)), (mp_arI E q8 0 180 (fun _ => 0)), (mp_arI E q9 3 3000 (fun _ => 0)), (mp_arI E q10 0 90 (fun _ => 0))]
  show mp_W E X 2 90 [(0, .ref h0)] [] w12_ 10 5208
  refine mp_run mp_k_cX10_init_ok hF mp_tabX10_ok [mp_i (.aload_n 0), mp_c (.sipush 300) 300, mp_h (.newarray .int) [300], mp_h (.putfield 47) [21, 0]] (by decide +kernel) ?_
  refine And.intro (by decide) (And.intro (Nat.le_of_ble_eq_true rfl) (And.intro (Nat.le_of_ble_eq_true rfl) (And.intro (by decide) ?_)))
  intro q11
  refine And.intro rfl (And.intro rfl (And.intro rfl (And.intro rfl (And.intro (Nat.le_of_ble_eq_true rfl) ?_))))
  let w13_ : va_W := [(h0, .inr (10, [.int 0, .ref q1, .ref q2, .ref q3, .ref q4, .ref q5, .int 0, .int 0, .int 0, .int 0, .int 0, .long 0, .int 0, .int 0, .int 0, .int (-1), .ref q6, .ref q7, .ref q8, .ref q9, .ref q10, .ref q11, .null, .null, .int 0, .null, .null, .null, .null, .int 0, .int 0, .int 0, .null, .null, .int 0, .int 0, .null, .null, .null, .int 0, .int 0, .int 0, .int 0, .null, .null, .null, .int 0])), (mp_arI E q1 0 4 (fun _ => 0)), (mp_arI E q2 0 4 (fun _ => 0)), (mp_arL E q3 240 (fun _ => 0)), (mp_arL E q4 60 (fun _ => 0)), (mp_arI E q5 1 1600 (fun _ => 0)), (mp_arI E q6 0 5 (fun _ => 0)), (mp_arI E q7 0 25 (fun _ => 0)), (mp_arI E q8 0 180 (fun _ => 0)), (mp_arI E q9 3 3000 (fun _ => 0)), (mp_arI E q10 0 90 (fun _ => 0)), (mp_arI E q11 0 300 (fun _ => 0))]
  show mp_W E X 2 99 [(0, .ref h0)] [] w13_ 11 5508
  refine mp_run mp_k_cX10_init_ok hF mp_tabX10_ok [mp_i (.aload_n 0), mp_c (.sipush 300) 300, mp_h (.newarray .int) [300], mp_h (.putfield 50) [22, 0]] (by decide +kernel) ?_
  refine And.intro (by decide) (And.intro (Nat.le_of_ble_eq_true rfl) (And.intro (Nat.le_of_ble_eq_true rfl) (And.intro (by decide) ?_)))
  intro q12
  refine And.intro rfl (And.intro rfl (And.intro rfl (And.intro rfl (And.intro (Nat.le_of_ble_eq_true rfl) ?_))))
  let w14_ : va_W := [(h0, .inr (10, [.int 0, .ref q1, .ref q2, .ref q3, .ref q4, .ref q5, .int 0, .int 0, .int 0, .int 0, .int 0, .long 0, .int 0, .int 0, .int 0, .int (-1), .ref q6, .ref q7, .ref q8, .ref q9, .ref q10, .ref q11, .ref q12, .null, .int 0, .null, .null, .null, .null, .int 0, .int 0, .int 0, .null, .null, .int 0, .int 0, .null, .null, .null, .int 0, .int 0, .int 0, .int 0, .null, .null, .null, .int 0])), (mp_arI E q1 0 4 (fun _ => 0)), (mp_arI E q2 0 4 (fun _ => 0)), (mp_arL E q3 240 (fun _ => 0)), (mp_arL E q4 60 (fun _ => 0)), (mp_arI E q5 1 1600 (fun _ => 0)), (mp_arI E q6 0 5 (fun _ => 0)), (mp_arI E q7 0 25 (fun _ => 0)), (mp_arI E q8 0 180 (fun _ => 0)), (mp_arI E q9 3 3000 (fun _ => 0)), (mp_arI E q10 0 90 (fun _ => 0)), (mp_arI E q11 0 300 (fun _ => 0)), (mp_arI E q12 0 300 (fun _ => 0))]
  show mp_W E X 2 108 [(0, .ref h0)] [] w14_ 12 5808
  refine mp_run mp_k_cX10_init_ok hF mp_tabX10_ok [mp_i (.aload_n 0), mp_c (.iconst 3) 3, mp_h (.newarray .boolean) [3], mp_h (.putfield 53) [23, 0]] (by decide +kernel) ?_
  refine And.intro (by decide) (And.intro (Nat.le_of_ble_eq_true rfl) (And.intro (Nat.le_of_ble_eq_true rfl) (And.intro (by decide) ?_)))
  intro q13
  refine And.intro rfl (And.intro rfl (And.intro rfl (And.intro rfl (And.intro (Nat.le_of_ble_eq_true rfl) ?_))))
  let w15_ : va_W := [(h0, .inr (10, [.int 0, .ref q1, .ref q2, .ref q3, .ref q4, .ref q5, .int 0, .int 0, .int 0, .int 0, .int 0, .long 0, .int 0, .int 0, .int 0, .int (-1), .ref q6, .ref q7, .ref q8, .ref q9, .ref q10, .ref q11, .ref q12, .ref q13, .int 0, .null, .null, .null, .null, .int 0, .int 0, .int 0, .null, .null, .int 0, .int 0, .null, .null, .null, .int 0, .int 0, .int 0, .int 0, .null, .null, .null, .int 0])), (mp_arI E q1 0 4 (fun _ => 0)), (mp_arI E q2 0 4 (fun _ => 0)), (mp_arL E q3 240 (fun _ => 0)), (mp_arL E q4 60 (fun _ => 0)), (mp_arI E q5 1 1600 (fun _ => 0)), (mp_arI E q6 0 5 (fun _ => 0)), (mp_arI E q7 0 25 (fun _ => 0)), (mp_arI E q8 0 180 (fun _ => 0)), (mp_arI E q9 3 3000 (fun _ => 0)), (mp_arI E q10 0 90 (fun _ => 0)), (mp_arI E q11 0 300 (fun _ => 0)), (mp_arI E q12 0 300 (fun _ => 0)), (mp_arI E q13 3 3 (fun _ => 0))]
  show mp_W E X 2 115 [(0, .ref h0)] [] w15_ 13 5811
  refine mp_run mp_k_cX10_init_ok hF mp_tabX10_ok [mp_i (.aload_n 0), mp_c (.bipush 6) 6, mp_h (.newarray .int) [6], mp_h (.putfield 56) [25, 0]] (by decide +kernel) ?_
  refine And.intro (by decide) (And.intro (Nat.le_of_ble_eq_true rfl) (And.intro (Nat.le_of_ble_eq_true rfl) (And.intro (by decide) ?_)))
  intro q14
  refine And.intro rfl (And.intro rfl (And.intro rfl (And.intro rfl (And.intro (Nat.le_of_ble_eq_true rfl) ?_))))
  let w16_ : va_W := [(h0, .inr (10, [.int 0, .ref q1, .ref q2, .ref q3, .ref q4, .ref q5, .int 0, .int 0, .int 0, .int 0, .int 0, .long 0, .int 0, .int 0, .int 0, .int (-1), .ref q6, .ref q7, .ref q8, .ref q9, .ref q10, .ref q11, .ref q12, .ref q13, .int 0, .ref q14, .null, .null, .null, .int 0, .int 0, .int 0, .null, .null, .int 0, .int 0, .null, .null, .null, .int 0, .int 0, .int 0, .int 0, .null, .null, .null, .int 0])), (mp_arI E q1 0 4 (fun _ => 0)), (mp_arI E q2 0 4 (fun _ => 0)), (mp_arL E q3 240 (fun _ => 0)), (mp_arL E q4 60 (fun _ => 0)), (mp_arI E q5 1 1600 (fun _ => 0)), (mp_arI E q6 0 5 (fun _ => 0)), (mp_arI E q7 0 25 (fun _ => 0)), (mp_arI E q8 0 180 (fun _ => 0)), (mp_arI E q9 3 3000 (fun _ => 0)), (mp_arI E q10 0 90 (fun _ => 0)), (mp_arI E q11 0 300 (fun _ => 0)), (mp_arI E q12 0 300 (fun _ => 0)), (mp_arI E q13 3 3 (fun _ => 0)), (mp_arI E q14 0 6 (fun _ => 0))]
  show mp_W E X 2 123 [(0, .ref h0)] [] w16_ 14 5817
  refine mp_run mp_k_cX10_init_ok hF mp_tabX10_ok [mp_i (.aload_n 0), mp_c (.bipush 6) 6, mp_h (.newarray .int) [6], mp_h (.putfield 59) [26, 0]] (by decide +kernel) ?_
  refine And.intro (by decide) (And.intro (Nat.le_of_ble_eq_true rfl) (And.intro (Nat.le_of_ble_eq_true rfl) (And.intro (by decide) ?_)))
  intro q15
  refine And.intro rfl (And.intro rfl (And.intro rfl (And.intro rfl (And.intro (Nat.le_of_ble_eq_true rfl) ?_))))
  let w17_ : va_W := [(h0, .inr (10, [.int 0, .ref q1, .ref q2, .ref q3, .ref q4, .ref q5, .int 0, .int 0, .int 0, .int 0, .int 0, .long 0, .int 0, .int 0, .int 0, .int (-1), .ref q6, .ref q7, .ref q8, .ref q9, .ref q10, .ref q11, .ref q12, .ref q13, .int 0, .ref q14, .ref q15, .null, .null, .int 0, .int 0, .int 0, .null, .null, .int 0, .int 0, .null, .null, .null, .int 0, .int 0, .int 0, .int 0, .null, .null, .null, .int 0])), (mp_arI E q1 0 4 (fun _ => 0)), (mp_arI E q2 0 4 (fun _ => 0)), (mp_arL E q3 240 (fun _ => 0)), (mp_arL E q4 60 (fun _ => 0)), (mp_arI E q5 1 1600 (fun _ => 0)), (mp_arI E q6 0 5 (fun _ => 0)), (mp_arI E q7 0 25 (fun _ => 0)), (mp_arI E q8 0 180 (fun _ => 0)), (mp_arI E q9 3 3000 (fun _ => 0)), (mp_arI E q10 0 90 (fun _ => 0)), (mp_arI E q11 0 300 (fun _ => 0)), (mp_arI E q12 0 300 (fun _ => 0)), (mp_arI E q13 3 3 (fun _ => 0)), (mp_arI E q14 0 6 (fun _ => 0)), (mp_arI E q15 0 6 (fun _ => 0))]
  show mp_W E X 2 131 [(0, .ref h0)] [] w17_ 15 5823
  refine mp_run mp_k_cX10_init_ok hF mp_tabX10_ok [mp_i (.aload_n 0), mp_c (.bipush 6) 6, mp_h (.newarray .int) [6], mp_h (.putfield 62) [27, 0]] (by decide +kernel) ?_
  refine And.intro (by decide) (And.intro (Nat.le_of_ble_eq_true rfl) (And.intro (Nat.le_of_ble_eq_true rfl) (And.intro (by decide) ?_)))
  intro q16
  refine And.intro rfl (And.intro rfl (And.intro rfl (And.intro rfl (And.intro (Nat.le_of_ble_eq_true rfl) ?_))))
  let w18_ : va_W := [(h0, .inr (10, [.int 0, .ref q1, .ref q2, .ref q3, .ref q4, .ref q5, .int 0, .int 0, .int 0, .int 0, .int 0, .long 0, .int 0, .int 0, .int 0, .int (-1), .ref q6, .ref q7, .ref q8, .ref q9, .ref q10, .ref q11, .ref q12, .ref q13, .int 0, .ref q14, .ref q15, .ref q16, .null, .int 0, .int 0, .int 0, .null, .null, .int 0, .int 0, .null, .null, .null, .int 0, .int 0, .int 0, .int 0, .null, .null, .null, .int 0])), (mp_arI E q1 0 4 (fun _ => 0)), (mp_arI E q2 0 4 (fun _ => 0)), (mp_arL E q3 240 (fun _ => 0)), (mp_arL E q4 60 (fun _ => 0)), (mp_arI E q5 1 1600 (fun _ => 0)), (mp_arI E q6 0 5 (fun _ => 0)), (mp_arI E q7 0 25 (fun _ => 0)), (mp_arI E q8 0 180 (fun _ => 0)), (mp_arI E q9 3 3000 (fun _ => 0)), (mp_arI E q10 0 90 (fun _ => 0)), (mp_arI E q11 0 300 (fun _ => 0)), (mp_arI E q12 0 300 (fun _ => 0)), (mp_arI E q13 3 3 (fun _ => 0)), (mp_arI E q14 0 6 (fun _ => 0)), (mp_arI E q15 0 6 (fun _ => 0)), (mp_arI E q16 0 6 (fun _ => 0))]
  show mp_W E X 2 139 [(0, .ref h0)] [] w18_ 16 5829
  refine mp_run mp_k_cX10_init_ok hF mp_tabX10_ok [mp_i (.aload_n 0), mp_c (.sipush 1500) 1500, mp_h (.newarray .boolean) [1500], mp_h (.putfield 65) [28, 0]] (by decide +kernel) ?_
  refine And.intro (by decide) (And.intro (Nat.le_of_ble_eq_true rfl) (And.intro (Nat.le_of_ble_eq_true rfl) (And.intro (by decide) ?_)))
  intro q17
  refine And.intro rfl (And.intro rfl (And.intro rfl (And.intro rfl (And.intro (Nat.le_of_ble_eq_true rfl) ?_))))
  let w19_ : va_W := [(h0, .inr (10, [.int 0, .ref q1, .ref q2, .ref q3, .ref q4, .ref q5, .int 0, .int 0, .int 0, .int 0, .int 0, .long 0, .int 0, .int 0, .int 0, .int (-1), .ref q6, .ref q7, .ref q8, .ref q9, .ref q10, .ref q11, .ref q12, .ref q13, .int 0, .ref q14, .ref q15, .ref q16, .ref q17, .int 0, .int 0, .int 0, .null, .null, .int 0, .int 0, .null, .null, .null, .int 0, .int 0, .int 0, .int 0, .null, .null, .null, .int 0])), (mp_arI E q1 0 4 (fun _ => 0)), (mp_arI E q2 0 4 (fun _ => 0)), (mp_arL E q3 240 (fun _ => 0)), (mp_arL E q4 60 (fun _ => 0)), (mp_arI E q5 1 1600 (fun _ => 0)), (mp_arI E q6 0 5 (fun _ => 0)), (mp_arI E q7 0 25 (fun _ => 0)), (mp_arI E q8 0 180 (fun _ => 0)), (mp_arI E q9 3 3000 (fun _ => 0)), (mp_arI E q10 0 90 (fun _ => 0)), (mp_arI E q11 0 300 (fun _ => 0)), (mp_arI E q12 0 300 (fun _ => 0)), (mp_arI E q13 3 3 (fun _ => 0)), (mp_arI E q14 0 6 (fun _ => 0)), (mp_arI E q15 0 6 (fun _ => 0)), (mp_arI E q16 0 6 (fun _ => 0)), (mp_arI E q17 3 1500 (fun _ => 0))]
  show mp_W E X 2 148 [(0, .ref h0)] [] w19_ 17 7329
  refine mp_run mp_k_cX10_init_ok hF mp_tabX10_ok [mp_i (.aload_n 0), mp_c (.bipush 78) 78, mp_h (.newarray .int) [78], mp_h (.putfield 68) [32, 0]] (by decide +kernel) ?_
  refine And.intro (by decide) (And.intro (Nat.le_of_ble_eq_true rfl) (And.intro (Nat.le_of_ble_eq_true rfl) (And.intro (by decide) ?_)))
  intro q18
  refine And.intro rfl (And.intro rfl (And.intro rfl (And.intro rfl (And.intro (Nat.le_of_ble_eq_true rfl) ?_))))
  let w20_ : va_W := [(h0, .inr (10, [.int 0, .ref q1, .ref q2, .ref q3, .ref q4, .ref q5, .int 0, .int 0, .int 0, .int 0, .int 0, .long 0, .int 0, .int 0, .int 0, .int (-1), .ref q6, .ref q7, .ref q8, .ref q9, .ref q10, .ref q11, .ref q12, .ref q13, .int 0, .ref q14, .ref q15, .ref q16, .ref q17, .int 0, .int 0, .int 0, .ref q18, .null, .int 0, .int 0, .null, .null, .null, .int 0, .int 0, .int 0, .int 0, .null, .null, .null, .int 0])), (mp_arI E q1 0 4 (fun _ => 0)), (mp_arI E q2 0 4 (fun _ => 0)), (mp_arL E q3 240 (fun _ => 0)), (mp_arL E q4 60 (fun _ => 0)), (mp_arI E q5 1 1600 (fun _ => 0)), (mp_arI E q6 0 5 (fun _ => 0)), (mp_arI E q7 0 25 (fun _ => 0)), (mp_arI E q8 0 180 (fun _ => 0)), (mp_arI E q9 3 3000 (fun _ => 0)), (mp_arI E q10 0 90 (fun _ => 0)), (mp_arI E q11 0 300 (fun _ => 0)), (mp_arI E q12 0 300 (fun _ => 0)), (mp_arI E q13 3 3 (fun _ => 0)), (mp_arI E q14 0 6 (fun _ => 0)), (mp_arI E q15 0 6 (fun _ => 0)), (mp_arI E q16 0 6 (fun _ => 0)), (mp_arI E q17 3 1500 (fun _ => 0)), (mp_arI E q18 0 78 (fun _ => 0))]
  show mp_W E X 2 156 [(0, .ref h0)] [] w20_ 18 7407
  refine mp_run mp_k_cX10_init_ok hF mp_tabX10_ok [mp_i (.aload_n 0), mp_c (.bipush 78) 78, mp_h (.newarray .long) [78], mp_h (.putfield 71) [33, 0]] (by decide +kernel) ?_
  refine And.intro (by decide) (And.intro (Nat.le_of_ble_eq_true rfl) (And.intro (Nat.le_of_ble_eq_true rfl) (And.intro (by decide) ?_)))
  intro q19
  refine And.intro rfl (And.intro rfl (And.intro rfl (And.intro rfl (And.intro (Nat.le_of_ble_eq_true rfl) ?_))))
  let w21_ : va_W := [(h0, .inr (10, [.int 0, .ref q1, .ref q2, .ref q3, .ref q4, .ref q5, .int 0, .int 0, .int 0, .int 0, .int 0, .long 0, .int 0, .int 0, .int 0, .int (-1), .ref q6, .ref q7, .ref q8, .ref q9, .ref q10, .ref q11, .ref q12, .ref q13, .int 0, .ref q14, .ref q15, .ref q16, .ref q17, .int 0, .int 0, .int 0, .ref q18, .ref q19, .int 0, .int 0, .null, .null, .null, .int 0, .int 0, .int 0, .int 0, .null, .null, .null, .int 0])), (mp_arI E q1 0 4 (fun _ => 0)), (mp_arI E q2 0 4 (fun _ => 0)), (mp_arL E q3 240 (fun _ => 0)), (mp_arL E q4 60 (fun _ => 0)), (mp_arI E q5 1 1600 (fun _ => 0)), (mp_arI E q6 0 5 (fun _ => 0)), (mp_arI E q7 0 25 (fun _ => 0)), (mp_arI E q8 0 180 (fun _ => 0)), (mp_arI E q9 3 3000 (fun _ => 0)), (mp_arI E q10 0 90 (fun _ => 0)), (mp_arI E q11 0 300 (fun _ => 0)), (mp_arI E q12 0 300 (fun _ => 0)), (mp_arI E q13 3 3 (fun _ => 0)), (mp_arI E q14 0 6 (fun _ => 0)), (mp_arI E q15 0 6 (fun _ => 0)), (mp_arI E q16 0 6 (fun _ => 0)), (mp_arI E q17 3 1500 (fun _ => 0)), (mp_arI E q18 0 78 (fun _ => 0)), (mp_arL E q19 78 (fun _ => 0))]
  show mp_W E X 2 164 [(0, .ref h0)] [] w21_ 19 7485
  refine mp_run mp_k_cX10_init_ok hF mp_tabX10_ok [mp_i (.aload_n 0), mp_c (.bipush 6) 6, mp_h (.newarray .int) [6], mp_h (.putfield 74) [36, 0]] (by decide +kernel) ?_
  refine And.intro (by decide) (And.intro (Nat.le_of_ble_eq_true rfl) (And.intro (Nat.le_of_ble_eq_true rfl) (And.intro (by decide) ?_)))
  intro q20
  refine And.intro rfl (And.intro rfl (And.intro rfl (And.intro rfl (And.intro (Nat.le_of_ble_eq_true rfl) ?_))))
  let w22_ : va_W := [(h0, .inr (10, [.int 0, .ref q1, .ref q2, .ref q3, .ref q4, .ref q5, .int 0, .int 0, .int 0, .int 0, .int 0, .long 0, .int 0, .int 0, .int 0, .int (-1), .ref q6, .ref q7, .ref q8, .ref q9, .ref q10, .ref q11, .ref q12, .ref q13, .int 0, .ref q14, .ref q15, .ref q16, .ref q17, .int 0, .int 0, .int 0, .ref q18, .ref q19, .int 0, .int 0, .ref q20, .null, .null, .int 0, .int 0, .int 0, .int 0, .null, .null, .null, .int 0])), (mp_arI E q1 0 4 (fun _ => 0)), (mp_arI E q2 0 4 (fun _ => 0)), (mp_arL E q3 240 (fun _ => 0)), (mp_arL E q4 60 (fun _ => 0)), (mp_arI E q5 1 1600 (fun _ => 0)), (mp_arI E q6 0 5 (fun _ => 0)), (mp_arI E q7 0 25 (fun _ => 0)), (mp_arI E q8 0 180 (fun _ => 0)), (mp_arI E q9 3 3000 (fun _ => 0)), (mp_arI E q10 0 90 (fun _ => 0)), (mp_arI E q11 0 300 (fun _ => 0)), (mp_arI E q12 0 300 (fun _ => 0)), (mp_arI E q13 3 3 (fun _ => 0)), (mp_arI E q14 0 6 (fun _ => 0)), (mp_arI E q15 0 6 (fun _ => 0)), (mp_arI E q16 0 6 (fun _ => 0)), (mp_arI E q17 3 1500 (fun _ => 0)), (mp_arI E q18 0 78 (fun _ => 0)), (mp_arL E q19 78 (fun _ => 0)), (mp_arI E q20 0 6 (fun _ => 0))]
  show mp_W E X 2 172 [(0, .ref h0)] [] w22_ 20 7491
  refine mp_run mp_k_cX10_init_ok hF mp_tabX10_ok [mp_i (.aload_n 0), mp_c (.bipush 6) 6, mp_h (.newarray .int) [6], mp_h (.putfield 77) [37, 0]] (by decide +kernel) ?_
  refine And.intro (by decide) (And.intro (Nat.le_of_ble_eq_true rfl) (And.intro (Nat.le_of_ble_eq_true rfl) (And.intro (by decide) ?_)))
  intro q21
  refine And.intro rfl (And.intro rfl (And.intro rfl (And.intro rfl (And.intro (Nat.le_of_ble_eq_true rfl) ?_))))
  let w23_ : va_W := [(h0, .inr (10, [.int 0, .ref q1, .ref q2, .ref q3, .ref q4, .ref q5, .int 0, .int 0, .int 0, .int 0, .int 0, .long 0, .int 0, .int 0, .int 0, .int (-1), .ref q6, .ref q7, .ref q8, .ref q9, .ref q10, .ref q11, .ref q12, .ref q13, .int 0, .ref q14, .ref q15, .ref q16, .ref q17, .int 0, .int 0, .int 0, .ref q18, .ref q19, .int 0, .int 0, .ref q20, .ref q21, .null, .int 0, .int 0, .int 0, .int 0, .null, .null, .null, .int 0])), (mp_arI E q1 0 4 (fun _ => 0)), (mp_arI E q2 0 4 (fun _ => 0)), (mp_arL E q3 240 (fun _ => 0)), (mp_arL E q4 60 (fun _ => 0)), (mp_arI E q5 1 1600 (fun _ => 0)), (mp_arI E q6 0 5 (fun _ => 0)), (mp_arI E q7 0 25 (fun _ => 0)), (mp_arI E q8 0 180 (fun _ => 0)), (mp_arI E q9 3 3000 (fun _ => 0)), (mp_arI E q10 0 90 (fun _ => 0)), (mp_arI E q11 0 300 (fun _ => 0)), (mp_arI E q12 0 300 (fun _ => 0)), (mp_arI E q13 3 3 (fun _ => 0)), (mp_arI E q14 0 6 (fun _ => 0)), (mp_arI E q15 0 6 (fun _ => 0)), (mp_arI E q16 0 6 (fun _ => 0)), (mp_arI E q17 3 1500 (fun _ => 0)), (mp_arI E q18 0 78 (fun _ => 0)), (mp_arL E q19 78 (fun _ => 0)), (mp_arI E q20 0 6 (fun _ => 0)), (mp_arI E q21 0 6 (fun _ => 0))]
  show mp_W E X 2 180 [(0, .ref h0)] [] w23_ 21 7497
  refine mp_run mp_k_cX10_init_ok hF mp_tabX10_ok [mp_i (.aload_n 0), mp_c (.iconst 3) 3, mp_h (.newarray .int) [3], mp_h (.putfield 80) [38, 0]] (by decide +kernel) ?_
  refine And.intro (by decide) (And.intro (Nat.le_of_ble_eq_true rfl) (And.intro (Nat.le_of_ble_eq_true rfl) (And.intro (by decide) ?_)))
  intro q22
  refine And.intro rfl (And.intro rfl (And.intro rfl (And.intro rfl (And.intro (Nat.le_of_ble_eq_true rfl) ?_))))
  let w24_ : va_W := [(h0, .inr (10, [.int 0, .ref q1, .ref q2, .ref q3, .ref q4, .ref q5, .int 0, .int 0, .int 0, .int 0, .int 0, .long 0, .int 0, .int 0, .int 0, .int (-1), .ref q6, .ref q7, .ref q8, .ref q9, .ref q10, .ref q11, .ref q12, .ref q13, .int 0, .ref q14, .ref q15, .ref q16, .ref q17, .int 0, .int 0, .int 0, .ref q18, .ref q19, .int 0, .int 0, .ref q20, .ref q21, .ref q22, .int 0, .int 0, .int 0, .int 0, .null, .null, .null, .int 0])), (mp_arI E q1 0 4 (fun _ => 0)), (mp_arI E q2 0 4 (fun _ => 0)), (mp_arL E q3 240 (fun _ => 0)), (mp_arL E q4 60 (fun _ => 0)), (mp_arI E q5 1 1600 (fun _ => 0)), (mp_arI E q6 0 5 (fun _ => 0)), (mp_arI E q7 0 25 (fun _ => 0)), (mp_arI E q8 0 180 (fun _ => 0)), (mp_arI E q9 3 3000 (fun _ => 0)), (mp_arI E q10 0 90 (fun _ => 0)), (mp_arI E q11 0 300 (fun _ => 0)), (mp_arI E q12 0 300 (fun _ => 0)), (mp_arI E q13 3 3 (fun _ => 0)), (mp_arI E q14 0 6 (fun _ => 0)), (mp_arI E q15 0 6 (fun _ => 0)), (mp_arI E q16 0 6 (fun _ => 0)), (mp_arI E q17 3 1500 (fun _ => 0)), (mp_arI E q18 0 78 (fun _ => 0)), (mp_arL E q19 78 (fun _ => 0)), (mp_arI E q20 0 6 (fun _ => 0)), (mp_arI E q21 0 6 (fun _ => 0)), (mp_arI E q22 0 3 (fun _ => 0))]
  show mp_W E X 2 187 [(0, .ref h0)] [] w24_ 22 7500
  refine mp_run mp_k_cX10_init_ok hF mp_tabX10_ok [mp_i (.aload_n 0), mp_c (.bipush 12) 12, mp_h (.newarray .int) [12], mp_h (.putfield 83) [43, 0]] (by decide +kernel) ?_
  refine And.intro (by decide) (And.intro (Nat.le_of_ble_eq_true rfl) (And.intro (Nat.le_of_ble_eq_true rfl) (And.intro (by decide) ?_)))
  intro q23
  refine And.intro rfl (And.intro rfl (And.intro rfl (And.intro rfl (And.intro (Nat.le_of_ble_eq_true rfl) ?_))))
  let w25_ : va_W := [(h0, .inr (10, [.int 0, .ref q1, .ref q2, .ref q3, .ref q4, .ref q5, .int 0, .int 0, .int 0, .int 0, .int 0, .long 0, .int 0, .int 0, .int 0, .int (-1), .ref q6, .ref q7, .ref q8, .ref q9, .ref q10, .ref q11, .ref q12, .ref q13, .int 0, .ref q14, .ref q15, .ref q16, .ref q17, .int 0, .int 0, .int 0, .ref q18, .ref q19, .int 0, .int 0, .ref q20, .ref q21, .ref q22, .int 0, .int 0, .int 0, .int 0, .ref q23, .null, .null, .int 0])), (mp_arI E q1 0 4 (fun _ => 0)), (mp_arI E q2 0 4 (fun _ => 0)), (mp_arL E q3 240 (fun _ => 0)), (mp_arL E q4 60 (fun _ => 0)), (mp_arI E q5 1 1600 (fun _ => 0)), (mp_arI E q6 0 5 (fun _ => 0)), (mp_arI E q7 0 25 (fun _ => 0)), (mp_arI E q8 0 180 (fun _ => 0)), (mp_arI E q9 3 3000 (fun _ => 0)), (mp_arI E q10 0 90 (fun _ => 0)), (mp_arI E q11 0 300 (fun _ => 0)), (mp_arI E q12 0 300 (fun _ => 0)), (mp_arI E q13 3 3 (fun _ => 0)), (mp_arI E q14 0 6 (fun _ => 0)), (mp_arI E q15 0 6 (fun _ => 0)), (mp_arI E q16 0 6 (fun _ => 0)), (mp_arI E q17 3 1500 (fun _ => 0)), (mp_arI E q18 0 78 (fun _ => 0)), (mp_arL E q19 78 (fun _ => 0)), (mp_arI E q20 0 6 (fun _ => 0)), (mp_arI E q21 0 6 (fun _ => 0)), (mp_arI E q22 0 3 (fun _ => 0)), (mp_arI E q23 0 12 (fun _ => 0))]
  show mp_W E X 2 195 [(0, .ref h0)] [] w25_ 23 7512
  refine mp_run mp_k_cX10_init_ok hF mp_tabX10_ok [mp_i (.aload_n 0), mp_c (.bipush 12) 12, mp_h (.newarray .int) [12], mp_h (.putfield 86) [44, 0]] (by decide +kernel) ?_
  refine And.intro (by decide) (And.intro (Nat.le_of_ble_eq_true rfl) (And.intro (Nat.le_of_ble_eq_true rfl) (And.intro (by decide) ?_)))
  intro q24
  refine And.intro rfl (And.intro rfl (And.intro rfl (And.intro rfl (And.intro (Nat.le_of_ble_eq_true rfl) ?_))))
  let w26_ : va_W := [(h0, .inr (10, [.int 0, .ref q1, .ref q2, .ref q3, .ref q4, .ref q5, .int 0, .int 0, .int 0, .int 0, .int 0, .long 0, .int 0, .int 0, .int 0, .int (-1), .ref q6, .ref q7, .ref q8, .ref q9, .ref q10, .ref q11, .ref q12, .ref q13, .int 0, .ref q14, .ref q15, .ref q16, .ref q17, .int 0, .int 0, .int 0, .ref q18, .ref q19, .int 0, .int 0, .ref q20, .ref q21, .ref q22, .int 0, .int 0, .int 0, .int 0, .ref q23, .ref q24, .null, .int 0])), (mp_arI E q1 0 4 (fun _ => 0)), (mp_arI E q2 0 4 (fun _ => 0)), (mp_arL E q3 240 (fun _ => 0)), (mp_arL E q4 60 (fun _ => 0)), (mp_arI E q5 1 1600 (fun _ => 0)), (mp_arI E q6 0 5 (fun _ => 0)), (mp_arI E q7 0 25 (fun _ => 0)), (mp_arI E q8 0 180 (fun _ => 0)), (mp_arI E q9 3 3000 (fun _ => 0)), (mp_arI E q10 0 90 (fun _ => 0)), (mp_arI E q11 0 300 (fun _ => 0)), (mp_arI E q12 0 300 (fun _ => 0)), (mp_arI E q13 3 3 (fun _ => 0)), (mp_arI E q14 0 6 (fun _ => 0)), (mp_arI E q15 0 6 (fun _ => 0)), (mp_arI E q16 0 6 (fun _ => 0)), (mp_arI E q17 3 1500 (fun _ => 0)), (mp_arI E q18 0 78 (fun _ => 0)), (mp_arL E q19 78 (fun _ => 0)), (mp_arI E q20 0 6 (fun _ => 0)), (mp_arI E q21 0 6 (fun _ => 0)), (mp_arI E q22 0 3 (fun _ => 0)), (mp_arI E q23 0 12 (fun _ => 0)), (mp_arI E q24 0 12 (fun _ => 0))]
  show mp_W E X 2 203 [(0, .ref h0)] [] w26_ 24 7524
  refine mp_run mp_k_cX10_init_ok hF mp_tabX10_ok [mp_i (.aload_n 0), mp_c (.bipush 100) 100, mp_h (.newarray .int) [100], mp_h (.putfield 89) [45, 0]] (by decide +kernel) ?_
  refine And.intro (by decide) (And.intro (Nat.le_of_ble_eq_true rfl) (And.intro (Nat.le_of_ble_eq_true rfl) (And.intro (by decide) ?_)))
  intro q25
  refine And.intro rfl (And.intro rfl (And.intro rfl (And.intro rfl (And.intro (Nat.le_of_ble_eq_true rfl) ?_))))
  let w27_ : va_W := [(mp_ob10 h0 0 q1 q2 q3 q4 q5 0 0 0 0 0 0 0 0 0 (-1) q6 q7 q8 q9 q10 q11 q12 q13 0 q14 q15 q16 q17 0 0 0 q18 q19 0 0 q20 q21 q22 0 0 0 0 q23 q24 q25 0), (mp_arI E q1 0 4 (fun _ => 0)), (mp_arI E q2 0 4 (fun _ => 0)), (mp_arL E q3 240 (fun _ => 0)), (mp_arL E q4 60 (fun _ => 0)), (mp_arI E q5 1 1600 (fun _ => 0)), (mp_arI E q6 0 5 (fun _ => 0)), (mp_arI E q7 0 25 (fun _ => 0)), (mp_arI E q8 0 180 (fun _ => 0)), (mp_arI E q9 3 3000 (fun _ => 0)), (mp_arI E q10 0 90 (fun _ => 0)), (mp_arI E q11 0 300 (fun _ => 0)), (mp_arI E q12 0 300 (fun _ => 0)), (mp_arI E q13 3 3 (fun _ => 0)), (mp_arI E q14 0 6 (fun _ => 0)), (mp_arI E q15 0 6 (fun _ => 0)), (mp_arI E q16 0 6 (fun _ => 0)), (mp_arI E q17 3 1500 (fun _ => 0)), (mp_arI E q18 0 78 (fun _ => 0)), (mp_arL E q19 78 (fun _ => 0)), (mp_arI E q20 0 6 (fun _ => 0)), (mp_arI E q21 0 6 (fun _ => 0)), (mp_arI E q22 0 3 (fun _ => 0)), (mp_arI E q23 0 12 (fun _ => 0)), (mp_arI E q24 0 12 (fun _ => 0)), (mp_arI E q25 0 100 (fun _ => 0))]
  show mp_W E X 2 211 [(0, .ref h0)] [] w27_ 25 7624
  refine mp_run mp_k_cX10_init_ok hF mp_tabX10_ok [mp_c (.iconst 0) 0, mp_i (.istore_n 1), mp_i (.iload_n 1), mp_c (.iconst 4) 4, mp_h (.if_icmp .ge 16) [231]] (by decide +kernel) ?_
  refine And.intro (fun c26 => absurd c26 (by decide)) (fun _ => ?_)
  show mp_W E X 2 218 [(1, .int 0), (0, .ref h0)] [] w27_ 25 7624
  refine mp_run mp_k_cX10_init_ok hF mp_tabX10_ok [mp_i (.aload_n 0), mp_h (.getfield 7) [1, 0], mp_i (.iload_n 1), mp_c (.iconst (-1)) (-1), mp_h .iastore [1]] (by decide +kernel) ?_
  refine And.intro rfl (And.intro rfl ?_)
  refine And.intro rfl (And.intro rfl (And.intro (vp_in_iff.mpr (by decide)) ?_))
  intro g27 h28
  let w28_ : va_W := [(mp_ob10 h0 0 q1 q2 q3 q4 q5 0 0 0 0 0 0 0 0 0 (-1) q6 q7 q8 q9 q10 q11 q12 q13 0 q14 q15 q16 q17 0 0 0 q18 q19 0 0 q20 q21 q22 0 0 0 0 q23 q24 q25 0), (mp_arI E q1 0 4 g27), (mp_arI E q2 0 4 (fun _ => 0)), (mp_arL E q3 240 (fun _ => 0)), (mp_arL E q4 60 (fun _ => 0)), (mp_arI E q5 1 1600 (fun _ => 0)), (mp_arI E q6 0 5 (fun _ => 0)), (mp_arI E q7 0 25 (fun _ => 0)), (mp_arI E q8 0 180 (fun _ => 0)), (mp_arI E q9 3 3000 (fun _ => 0)), (mp_arI E q10 0 90 (fun _ => 0)), (mp_arI E q11 0 300 (fun _ => 0)), (mp_arI E q12 0 300 (fun _ => 0)), (mp_arI E q13 3 3 (fun _ => 0)), (mp_arI E q14 0 6 (fun _ => 0)), (mp_arI E q15 0 6 (fun _ => 0)), (mp_arI E q16 0 6 (fun _ => 0)), (mp_arI E q17 3 1500 (fun _ => 0)), (mp_arI E q18 0 78 (fun _ => 0)), (mp_arL E q19 78 (fun _ => 0)), (mp_arI E q20 0 6 (fun _ => 0)), (mp_arI E q21 0 6 (fun _ => 0)), (mp_arI E q22 0 3 (fun _ => 0)), (mp_arI E q23 0 12 (fun _ => 0)), (mp_arI E q24 0 12 (fun _ => 0)), (mp_arI E q25 0 100 (fun _ => 0))]
  show mp_W E X 2 225 [(1, .int 0), (0, .ref h0)] [] w28_ 25 7624
  refine mp_run mp_k_cX10_init_ok hF mp_tabX10_ok [mp_c (.iinc 1 1) 1, mp_h (.goto (-15)) [213], mp_i (.iload_n 1), mp_c (.iconst 4) 4, mp_h (.if_icmp .ge 16) [231]] (by decide +kernel) ?_
  intro z29 h30
  obtain rfl : z29 = 1 := h30.trans (by decide)
  refine And.intro (fun c31 => absurd c31 (by decide)) (fun _ => ?_)
  show mp_W E X 2 218 [(1, .int 1), (0, .ref h0)] [] w28_ 25 7624
  refine mp_run mp_k_cX10_init_ok hF mp_tabX10_ok [mp_i (.aload_n 0), mp_h (.getfield 7) [1, 0], mp_i (.iload_n 1), mp_c (.iconst (-1)) (-1), mp_h .iastore [1]] (by decide +kernel) ?_
  refine And.intro rfl (And.intro rfl ?_)
  refine And.intro rfl (And.intro rfl (And.intro (vp_in_iff.mpr (by decide)) ?_))
  intro g32 h33
  let w29_ : va_W := [(mp_ob10 h0 0 q1 q2 q3 q4 q5 0 0 0 0 0 0 0 0 0 (-1) q6 q7 q8 q9 q10 q11 q12 q13 0 q14 q15 q16 q17 0 0 0 q18 q19 0 0 q20 q21 q22 0 0 0 0 q23 q24 q25 0), (mp_arI E q1 0 4 g32), (mp_arI E q2 0 4 (fun _ => 0)), (mp_arL E q3 240 (fun _ => 0)), (mp_arL E q4 60 (fun _ => 0)), (mp_arI E q5 1 1600 (fun _ => 0)), (mp_arI E q6 0 5 (fun _ => 0)), (mp_arI E q7 0 25 (fun _ => 0)), (mp_arI E q8 0 180 (fun _ => 0)), (mp_arI E q9 3 3000 (fun _ => 0)), (mp_arI E q10 0 90 (fun _ => 0)), (mp_arI E q11 0 300 (fun _ => 0)), (mp_arI E q12 0 300 (fun _ => 0)), (mp_arI E q13 3 3 (fun _ => 0)), (mp_arI E q14 0 6 (fun _ => 0)), (mp_arI E q15 0 6 (fun _ => 0)), (mp_arI E q16 0 6 (fun _ => 0)), (mp_arI E q17 3 1500 (fun _ => 0)), (mp_arI E q18 0 78 (fun _ => 0)), (mp_arL E q19 78 (fun _ => 0)), (mp_arI E q20 0 6 (fun _ => 0)), (mp_arI E q21 0 6 (fun _ => 0)), (mp_arI E q22 0 3 (fun _ => 0)), (mp_arI E q23 0 12 (fun _ => 0)), (mp_arI E q24 0 12 (fun _ => 0)), (mp_arI E q25 0 100 (fun _ => 0))]
  show mp_W E X 2 225 [(1, .int 1), (0, .ref h0)] [] w29_ 25 7624
  refine mp_run mp_k_cX10_init_ok hF mp_tabX10_ok [mp_c (.iinc 1 1) 1, mp_h (.goto (-15)) [213], mp_i (.iload_n 1), mp_c (.iconst 4) 4, mp_h (.if_icmp .ge 16) [231]] (by decide +kernel) ?_
  intro z34 h35
  obtain rfl : z34 = 2 := h35.trans (by decide)
  refine And.intro (fun c36 => absurd c36 (by decide)) (fun _ => ?_)
  show mp_W E X 2 218 [(1, .int 2), (0, .ref h0)] [] w29_ 25 7624
  refine mp_run mp_k_cX10_init_ok hF mp_tabX10_ok [mp_i (.aload_n 0), mp_h (.getfield 7) [1, 0], mp_i (.iload_n 1), mp_c (.iconst (-1)) (-1), mp_h .iastore [1]] (by decide +kernel) ?_
  refine And.intro rfl (And.intro rfl ?_)
  refine And.intro rfl (And.intro rfl (And.intro (vp_in_iff.mpr (by decide)) ?_))
  intro g37 h38
  let w30_ : va_W := [(mp_ob10 h0 0 q1 q2 q3 q4 q5 0 0 0 0 0 0 0 0 0 (-1) q6 q7 q8 q9 q10 q11 q12 q13 0 q14 q15 q16 q17 0 0 0 q18 q19 0 0 q20 q21 q22 0 0 0 0 q23 q24 q25 0), (mp_arI E q1 0 4 g37), (mp_arI E q2 0 4 (fun _ => 0)), (mp_arL E q3 240 (fun _ => 0)), (mp_arL E q4 60 (fun _ => 0)), (mp_arI E q5 1 1600 (fun _ => 0)), (mp_arI E q6 0 5 (fun _ => 0)), (mp_arI E q7 0 25 (fun _ => 0)), (mp_arI E q8 0 180 (fun _ => 0)), (mp_arI E q9 3 3000 (fun _ => 0)), (mp_arI E q10 0 90 (fun _ => 0)), (mp_arI E q11 0 300 (fun _ => 0)), (mp_arI E q12 0 300 (fun _ => 0)), (mp_arI E q13 3 3 (fun _ => 0)), (mp_arI E q14 0 6 (fun _ => 0)), (mp_arI E q15 0 6 (fun _ => 0)), (mp_arI E q16 0 6 (fun _ => 0)), (mp_arI E q17 3 1500 (fun _ => 0)), (mp_arI E q18 0 78 (fun _ => 0)), (mp_arL E q19 78 (fun _ => 0)), (mp_arI E q20 0 6 (fun _ => 0)), (mp_arI E q21 0 6 (fun _ => 0)), (mp_arI E q22 0 3 (fun _ => 0)), (mp_arI E q23 0 12 (fun _ => 0)), (mp_arI E q24 0 12 (fun _ => 0)), (mp_arI E q25 0 100 (fun _ => 0))]
  show mp_W E X 2 225 [(1, .int 2), (0, .ref h0)] [] w30_ 25 7624
  refine mp_run mp_k_cX10_init_ok hF mp_tabX10_ok [mp_c (.iinc 1 1) 1, mp_h (.goto (-15)) [213], mp_i (.iload_n 1), mp_c (.iconst 4) 4, mp_h (.if_icmp .ge 16) [231]] (by decide +kernel) ?_
  intro z39 h40
  obtain rfl : z39 = 3 := h40.trans (by decide)
  refine And.intro (fun c41 => absurd c41 (by decide)) (fun _ => ?_)
  show mp_W E X 2 218 [(1, .int 3), (0, .ref h0)] [] w30_ 25 7624
  refine mp_run mp_k_cX10_init_ok hF mp_tabX10_ok [mp_i (.aload_n 0), mp_h (.getfield 7) [1, 0], mp_i (.iload_n 1), mp_c (.iconst (-1)) (-1), mp_h .iastore [1]] (by decide +kernel) ?_
  refine And.intro rfl (And.intro rfl ?_)
  refine And.intro rfl (And.intro rfl (And.intro (vp_in_iff.mpr (by decide)) ?_))
  intro g42 h43
  let w31_ : va_W := [(mp_ob10 h0 0 q1 q2 q3 q4 q5 0 0 0 0 0 0 0 0 0 (-1) q6 q7 q8 q9 q10 q11 q12 q13 0 q14 q15 q16 q17 0 0 0 q18 q19 0 0 q20 q21 q22 0 0 0 0 q23 q24 q25 0), (mp_arI E q1 0 4 g42), (mp_arI E q2 0 4 (fun _ => 0)), (mp_arL E q3 240 (fun _ => 0)), (mp_arL E q4 60 (fun _ => 0)), (mp_arI E q5 1 1600 (fun _ => 0)), (mp_arI E q6 0 5 (fun _ => 0)), (mp_arI E q7 0 25 (fun _ => 0)), (mp_arI E q8 0 180 (fun _ => 0)), (mp_arI E q9 3 3000 (fun _ => 0)), (mp_arI E q10 0 90 (fun _ => 0)), (mp_arI E q11 0 300 (fun _ => 0)), (mp_arI E q12 0 300 (fun _ => 0)), (mp_arI E q13 3 3 (fun _ => 0)), (mp_arI E q14 0 6 (fun _ => 0)), (mp_arI E q15 0 6 (fun _ => 0)), (mp_arI E q16 0 6 (fun _ => 0)), (mp_arI E q17 3 1500 (fun _ => 0)), (mp_arI E q18 0 78 (fun _ => 0)), (mp_arL E q19 78 (fun _ => 0)), (mp_arI E q20 0 6 (fun _ => 0)), (mp_arI E q21 0 6 (fun _ => 0)), (mp_arI E q22 0 3 (fun _ => 0)), (mp_arI E q23 0 12 (fun _ => 0)), (mp_arI E q24 0 12 (fun _ => 0)), (mp_arI E q25 0 100 (fun _ => 0))]
  show mp_W E X 2 225 [(1, .int 3), (0, .ref h0)] [] w31_ 25 7624
  refine mp_run mp_k_cX10_init_ok hF mp_tabX10_ok [mp_c (.iinc 1 1) 1, mp_h (.goto (-15)) [213], mp_i (.iload_n 1), mp_c (.iconst 4) 4, mp_h (.if_icmp .ge 16) [231]] (by decide +kernel) ?_
  intro z44 h45
  obtain rfl : z44 = 4 := h45.trans (by decide)
  refine And.intro (fun _ => ?_) (fun c46 => absurd c46 (by decide))
  show mp_W E X 2 231 [(1, .int 4), (0, .ref h0)] [] w31_ 25 7624
  exact mp_vret hF hQ rfl (Nat.le_of_ble_eq_true rfl) (Nat.le_of_ble_eq_true rfl) [0, 1, 2, 3, 4, 5, 6, 7, 8, 9, 10, 11, 12, 13, 14, 15, 16, 17, 18, 19, 20, 21, 22, 23, 24, 25] (w' := w31_) rfl rfl ⟨rfl, fun k => ([h0, q1, q2, q3, q4, q5, q6, q7, q8, q9, q10, q11, q12, q13, q14, q15, q16, q17, q18, q19, q20, q21, q22, q23, q24, q25] : List Nat).getD k 0, g42, rfl, (by intro j hj; rw [h43, h38, h33, h28]; have h9 : j = 0 ∨ j = 1 ∨ j = 2 ∨ j = 3 := (by (first | exact mp_o2171 hj | omega)); rcases h9 with rfl | rfl | rfl | rfl <;> rfl), rfl⟩ (by first | exact mp_fd_ok mp_k_cX10_init_ok (by decide +kernel) | decide +kernel)

set_option maxHeartbeats 4000000 in
set_option maxRecDepth 100000 in
theorem k_Main (E : mp_E) (h0 : Nat) : mp_Ct E yX9_init cX9_init 1 none 3 57 3761 52 [.ref h0] [(h0, .inr (9, [.null, .null, .null, .null, .null, .null, .null, .null, .null]))] (fun v w' => v = none ∧ ∃ b : Nat → Nat, ∃ (vs ln : Nat → Int32), b 0 = h0 ∧ (∀ j : Nat, (j : Int) < 100 → vs j = mp_nim j) ∧ (∀ j, j < 4 → ln j = -1) ∧ w' = [(mp_ob9 h0 (b 1) (b 16) (b 36) (b 37) (b 40) (b 46) (b 49) (b 52) (b 54)), (mp_ob3 (b 1) (b 2) 0 (b 3) 0 (-1) 0 0 0 0 0), (mp_arI E (b 2) 1 1600 (fun _ => 0)), (mp_ob7 (b 3) 0 0 0 0 0 0 (b 4) (b 5) (b 6) (b 7) (b 8) (b 9) (b 10) (b 11) (b 12) (b 13) (b 14) (b 15)), (mp_arI E (b 4) 0 36 (fun _ => 0)), (mp_arL E (b 5) 12 (fun _ => 0)), (mp_arI E (b 6) 0 6 (fun _ => 0)), (mp_arI E (b 7) 0 6 (fun _ => 0)), (mp_arI E (b 8) 0 6 (fun _ => 0)), (mp_arI E (b 9) 0 10 (fun _ => 0)), (mp_arI E (b 10) 0 10 (fun _ => 0)), (mp_arI E (b 11) 0 10 (fun _ => 0)), (mp_arI E (b 12) 0 10 (fun _ => 0)), (mp_arI E (b 13) 0 10 (fun _ => 0)), (mp_arI E (b 14) 0 10 (fun _ => 0)), (mp_arI E (b 15) 0 60 (fun _ => 0)), (mp_ob0 (b 16) (b 17) 0 (b 30) (b 31) (b 32) (b 33) (b 34) (b 35)), (mp_ob7 (b 17) 0 0 0 0 0 0 (b 18) (b 19) (b 20) (b 21) (b 22) (b 23) (b 24) (b 25) (b 26) (b 27) (b 28) (b 29)), (mp_arI E (b 18) 0 36 (fun _ => 0)), (mp_arL E (b 19) 12 (fun _ => 0)), (mp_arI E (b 20) 0 6 (fun _ => 0)), (mp_arI E (b 21) 0 6 (fun _ => 0)), (mp_arI E (b 22) 0 6 (fun _ => 0)), (mp_arI E (b 23) 0 10 (fun _ => 0)), (mp_arI E (b 24) 0 10 (fun _ => 0)), (mp_arI E (b 25) 0 10 (fun _ => 0)), (mp_arI E (b 26) 0 10 (fun _ => 0)), (mp_arI E (b 27) 0 10 (fun _ => 0)), (mp_arI E (b 28) 0 10 (fun _ => 0)), (mp_arI E (b 29) 0 60 (fun _ => 0)), (mp_arI E (b 30) 0 6 (fun _ => 0)), (mp_arI E (b 31) 0 6 (fun _ => 0)), (mp_arI E (b 32) 0 6 (fun _ => 0)), (mp_arL E (b 33) 20 (fun _ => 0)), (mp_arI E (b 34) 0 10 (fun _ => 0)), (mp_arI E (b 35) 0 10 (fun _ => 0)), ((b 36), .inl (E.2.2 4, 3, .inr (.inr (.inr (.inr (fun _ => none)))))), (mp_ob1 (b 37) (b 38) 0 0 (b 39)), (mp_arI E (b 38) 0 36 (fun _ => 0)), (mp_arI E (b 39) 0 3 (fun _ => 0)), (mp_ob2 (b 40) 0 0 0 0 (b 41) (b 42) (b 43) (b 44) (b 45) 0 0), (mp_arI E (b 41) 0 432 (fun _ => 0)), (mp_arI E (b 42) 0 432 (fun _ => 0)), (mp_arI E (b 43) 0 72 (fun _ => 0)), (mp_arI E (b 44) 0 78 (fun _ => 0)), (mp_arL E (b 45) 78 (fun _ => 0)), (mp_ob4 (b 46) 0 0 0 (b 47) 0 0 0 0 0 (b 48)), (mp_arI E (b 47) 0 11 (fun _ => 0)), (mp_arI E (b 48) 0 132 (fun _ => 0)), (mp_ob6 (b 49) 0 (b 50) (b 51)), (mp_arI E (b 50) 0 8 (fun _ => 0)), (mp_arI E (b 51) 0 100 vs), (mp_ob8 (b 52) (b 53) 0 0), (mp_arI E (b 53) 0 10 (fun _ => 0)), (mp_ob5 (b 54) (b 55) (b 56) (b 57)), (mp_arL E (b 55) 240 (fun _ => 0)), (mp_arI E (b 56) 0 4 (fun _ => 0)), (mp_arI E (b 57) 0 4 ln)]) := by
  refine mp_met true (by decide) (by decide) (Nat.le_of_ble_eq_true rfl) (fun X hF hQ => ?_)
  have hF : mp_F E X (RX9, cX9_init, 1, (3, 57, 3761, 52), none, true) := hF
  show mp_W E X 1 0 [(0, .ref h0)] [] [(h0, .inr (9, [.null, .null, .null, .null, .null, .null, .null, .null, .null]))] 0 0
  refine mp_run mp_k_cX9_init_ok hF mp_tabX9_ok [mp_i (.aload_n 0)] (by decide +kernel) ?_
  show mp_W E X 1 1 [(0, .ref h0)] [.ref h0] [(h0, .inr (9, [.null, .null, .null, .null, .null, .null, .null, .null, .null]))] 0 0
  refine mp_objInit hF (idx := 1) (mp_gm (j := 1026) (by decide +kernel)) ⟨(Nat.le_of_ble_eq_true rfl), (Nat.le_of_ble_eq_true rfl)⟩ (by first | exact mp_fd_ok mp_k_cX9_init_ok (by decide +kernel) | decide +kernel) ?_
  show mp_W E X 1 4 [(0, .ref h0)] [] [(h0, .inr (9, [.null, .null, .null, .null, .null, .null, .null, .null, .null]))] 0 0
  refine mp_run mp_k_cX9_init_ok hF mp_tabX9_ok [mp_i (.aload_n 0)] (by decide +kernel) ?_
  show mp_W E X 1 5 [(0, .ref h0)] [.ref h0] [(h0, .inr (9, [.null, .null, .null, .null, .null, .null, .null, .null, .null]))] 0 0
  refine mp_new hF (mp_lnX9_7) ⟨(Nat.le_of_ble_eq_true rfl), (Nat.le_of_ble_eq_true rfl)⟩ (by first | exact mp_fd_ok mp_k_cX9_init_ok (by decide +kernel) | decide +kernel) (fun q1 => ?_)
  let w1_ : va_W := [(h0, .inr (9, [.null, .null, .null, .null, .null, .null, .null, .null, .null])), (q1, .inr (3, [.null, .int 0, .null, .int 0, .int 0, .int 0, .int 0, .int 0, .int 0, .int 0]))]
  show mp_W E X 1 8 [(0, .ref h0)] [.ref q1, .ref h0] w1_ 1 10
  refine mp_run mp_k_cX9_init_ok hF mp_tabX9_ok [mp_i .dup] (by decide +kernel) ?_
  refine And.intro rfl ?_
  show mp_W E X 1 9 [(0, .ref h0)] [.ref q1, .ref q1, .ref h0] w1_ 1 10
  refine mp_callIN hF (As := []) (rest := [.ref q1, .ref h0]) (wr := [(h0, .inr (9, [.null, .null, .null, .null, .null, .null, .null, .null, .null]))]) (k_Reader E q1) rfl (mp_gm (j := 1032) (by decide +kernel)) mp_lkX9_9 [1] [0] rfl rfl rfl rfl rfl ⟨(Nat.le_of_ble_eq_true rfl), (Nat.le_of_ble_eq_true rfl), (Nat.le_of_ble_eq_true rfl), (Nat.le_of_ble_eq_true rfl)⟩ (Nat.le_of_ble_eq_true rfl) (by first | exact mp_fd_ok mp_k_cX9_init_ok (by decide +kernel) | decide +kernel) (fun v2 w3 h4 => ?_)
  obtain ⟨rfl, b5, h6, rfl⟩ := h4
  clear h6
  let w2_ : va_W := [(h0, .inr (9, [.null, .null, .null, .null, .null, .null, .null, .null, .null])), (mp_ob3 q1 (b5 1) 0 (b5 2) 0 (-1) 0 0 0 0 0), (mp_arI E (b5 1) 1 1600 (fun _ => 0)), (mp_ob7 (b5 2) 0 0 0 0 0 0 (b5 3) (b5 4) (b5 5) (b5 6) (b5 7) (b5 8) (b5 9) (b5 10) (b5 11) (b5 12) (b5 13) (b5 14)), (mp_arI E (b5 3) 0 36 (fun _ => 0)), (mp_arL E (b5 4) 12 (fun _ => 0)), (mp_arI E (b5 5) 0 6 (fun _ => 0)), (mp_arI E (b5 6) 0 6 (fun _ => 0)), (mp_arI E (b5 7) 0 6 (fun _ => 0)), (mp_arI E (b5 8) 0 10 (fun _ => 0)), (mp_arI E (b5 9) 0 10 (fun _ => 0)), (mp_arI E (b5 10) 0 10 (fun _ => 0)), (mp_arI E (b5 11) 0 10 (fun _ => 0)), (mp_arI E (b5 12) 0 10 (fun _ => 0)), (mp_arI E (b5 13) 0 10 (fun _ => 0)), (mp_arI E (b5 14) 0 60 (fun _ => 0))]
  show mp_W E X 1 12 [(0, .ref h0)] [.ref q1, .ref h0] w2_ 15 1814
  refine mp_run mp_k_cX9_init_ok hF mp_tabX9_ok [mp_h (.putfield 10) [36, 0]] (by decide +kernel) ?_
  refine And.intro rfl (And.intro rfl (And.intro rfl (And.intro rfl (And.intro (Nat.le_of_ble_eq_true rfl) ?_))))
  let w3_ : va_W := [(h0, .inr (9, [.ref q1, .null, .null, .null, .null, .null, .null, .null, .null])), (mp_ob3 q1 (b5 1) 0 (b5 2) 0 (-1) 0 0 0 0 0), (mp_arI E (b5 1) 1 1600 (fun _ => 0)), (mp_ob7 (b5 2) 0 0 0 0 0 0 (b5 3) (b5 4) (b5 5) (b5 6) (b5 7) (b5 8) (b5 9) (b5 10) (b5 11) (b5 12) (b5 13) (b5 14)), (mp_arI E (b5 3) 0 36 (fun _ => 0)), (mp_arL E (b5 4) 12 (fun _ => 0)), (mp_arI E (b5 5) 0 6 (fun _ => 0)), (mp_arI E (b5 6) 0 6 (fun _ => 0)), (mp_arI E (b5 7) 0 6 (fun _ => 0)), (mp_arI E (b5 8) 0 10 (fun _ => 0)), (mp_arI E (b5 9) 0 10 (fun _ => 0)), (mp_arI E (b5 10) 0 10 (fun _ => 0)), (mp_arI E (b5 11) 0 10 (fun _ => 0)), (mp_arI E (b5 12) 0 10 (fun _ => 0)), (mp_arI E (b5 13) 0 10 (fun _ => 0)), (mp_arI E (b5 14) 0 60 (fun _ => 0))]
  show mp_W E X 1 15 [(0, .ref h0)] [] w3_ 15 1814
  refine mp_run mp_k_cX9_init_ok hF mp_tabX9_ok [mp_i (.aload_n 0)] (by decide +kernel) ?_
  show mp_W E X 1 16 [(0, .ref h0)] [.ref h0] w3_ 15 1814
  refine mp_new hF (mp_lnX9_16) ⟨(Nat.le_of_ble_eq_true rfl), (Nat.le_of_ble_eq_true rfl)⟩ (by first | exact mp_fd_ok mp_k_cX9_init_ok (by decide +kernel) | decide +kernel) (fun q7 => ?_)
  let w4_ : va_W := [(h0, .inr (9, [.ref q1, .null, .null, .null, .null, .null, .null, .null, .null])), (mp_ob3 q1 (b5 1) 0 (b5 2) 0 (-1) 0 0 0 0 0), (mp_arI E (b5 1) 1 1600 (fun _ => 0)), (mp_ob7 (b5 2) 0 0 0 0 0 0 (b5 3) (b5 4) (b5 5) (b5 6) (b5 7) (b5 8) (b5 9) (b5 10) (b5 11) (b5 12) (b5 13) (b5 14)), (mp_arI E (b5 3) 0 36 (fun _ => 0)), (mp_arL E (b5 4) 12 (fun _ => 0)), (mp_arI E (b5 5) 0 6 (fun _ => 0)), (mp_arI E (b5 6) 0 6 (fun _ => 0)), (mp_arI E (b5 7) 0 6 (fun _ => 0)), (mp_arI E (b5 8) 0 10 (fun _ => 0)), (mp_arI E (b5 9) 0 10 (fun _ => 0)), (mp_arI E (b5 10) 0 10 (fun _ => 0)), (mp_arI E (b5 11) 0 10 (fun _ => 0)), (mp_arI E (b5 12) 0 10 (fun _ => 0)), (mp_arI E (b5 13) 0 10 (fun _ => 0)), (mp_arI E (b5 14) 0 60 (fun _ => 0)), (q7, .inr (0, [.null, .int 0, .null, .null, .null, .null, .null, .null]))]
  show mp_W E X 1 19 [(0, .ref h0)] [.ref q7, .ref h0] w4_ 16 1822
  refine mp_run mp_k_cX9_init_ok hF mp_tabX9_ok [mp_i .dup] (by decide +kernel) ?_
  refine And.intro rfl ?_
  show mp_W E X 1 20 [(0, .ref h0)] [.ref q7, .ref q7, .ref h0] w4_ 16 1822
  refine mp_callIN hF (As := []) (rest := [.ref q7, .ref h0]) (wr := w3_) (k_Course E q7) rfl (mp_gm (j := 1187) (by decide +kernel)) mp_lkX9_18 [16] [0, 1, 2, 3, 4, 5, 6, 7, 8, 9, 10, 11, 12, 13, 14, 15] rfl rfl rfl rfl rfl ⟨(Nat.le_of_ble_eq_true rfl), (Nat.le_of_ble_eq_true rfl), (Nat.le_of_ble_eq_true rfl), (Nat.le_of_ble_eq_true rfl)⟩ (Nat.le_of_ble_eq_true rfl) (by first | exact mp_fd_ok mp_k_cX9_init_ok (by decide +kernel) | decide +kernel) (fun v8 w9 h10 => ?_)
  obtain ⟨rfl, b11, h12, rfl⟩ := h10
  clear h12
  let w5_ : va_W := [(h0, .inr (9, [.ref q1, .null, .null, .null, .null, .null, .null, .null, .null])), (mp_ob3 q1 (b5 1) 0 (b5 2) 0 (-1) 0 0 0 0 0), (mp_arI E (b5 1) 1 1600 (fun _ => 0)), (mp_ob7 (b5 2) 0 0 0 0 0 0 (b5 3) (b5 4) (b5 5) (b5 6) (b5 7) (b5 8) (b5 9) (b5 10) (b5 11) (b5 12) (b5 13) (b5 14)), (mp_arI E (b5 3) 0 36 (fun _ => 0)), (mp_arL E (b5 4) 12 (fun _ => 0)), (mp_arI E (b5 5) 0 6 (fun _ => 0)), (mp_arI E (b5 6) 0 6 (fun _ => 0)), (mp_arI E (b5 7) 0 6 (fun _ => 0)), (mp_arI E (b5 8) 0 10 (fun _ => 0)), (mp_arI E (b5 9) 0 10 (fun _ => 0)), (mp_arI E (b5 10) 0 10 (fun _ => 0)), (mp_arI E (b5 11) 0 10 (fun _ => 0)), (mp_arI E (b5 12) 0 10 (fun _ => 0)), (mp_arI E (b5 13) 0 10 (fun _ => 0)), (mp_arI E (b5 14) 0 60 (fun _ => 0)), (mp_ob0 q7 (b11 1) 0 (b11 14) (b11 15) (b11 16) (b11 17) (b11 18) (b11 19)), (mp_ob7 (b11 1) 0 0 0 0 0 0 (b11 2) (b11 3) (b11 4) (b11 5) (b11 6) (b11 7) (b11 8) (b11 9) (b11 10) (b11 11) (b11 12) (b11 13)), (mp_arI E (b11 2) 0 36 (fun _ => 0)), (mp_arL E (b11 3) 12 (fun _ => 0)), (mp_arI E (b11 4) 0 6 (fun _ => 0)), (mp_arI E (b11 5) 0 6 (fun _ => 0)), (mp_arI E (b11 6) 0 6 (fun _ => 0)), (mp_arI E (b11 7) 0 10 (fun _ => 0)), (mp_arI E (b11 8) 0 10 (fun _ => 0)), (mp_arI E (b11 9) 0 10 (fun _ => 0)), (mp_arI E (b11 10) 0 10 (fun _ => 0)), (mp_arI E (b11 11) 0 10 (fun _ => 0)), (mp_arI E (b11 12) 0 10 (fun _ => 0)), (mp_arI E (b11 13) 0 60 (fun _ => 0)), (mp_arI E (b11 14) 0 6 (fun _ => 0)), (mp_arI E (b11 15) 0 6 (fun _ => 0)), (mp_arI E (b11 16) 0 6 (fun _ => 0)), (mp_arL E (b11 17) 20 (fun _ => 0)), (mp_arI E (b11 18) 0 10 (fun _ => 0)), (mp_arI E (b11 19) 0 10 (fun _ => 0))]
  show mp_W E X 1 23 [(0, .ref h0)] [.ref q7, .ref h0] w5_ 35 2084
  refine mp_run mp_k_cX9_init_ok hF mp_tabX9_ok [mp_h (.putfield 19) [37, 0]] (by decide +kernel) ?_
  refine And.intro rfl (And.intro rfl (And.intro rfl (And.intro rfl (And.intro (Nat.le_of_ble_eq_true rfl) ?_))))
  let w6_ : va_W := [(h0, .inr (9, [.ref q1, .ref q7, .null, .null, .null, .null, .null, .null, .null])), (mp_ob3 q1 (b5 1) 0 (b5 2) 0 (-1) 0 0 0 0 0), (mp_arI E (b5 1) 1 1600 (fun _ => 0)), (mp_ob7 (b5 2) 0 0 0 0 0 0 (b5 3) (b5 4) (b5 5) (b5 6) (b5 7) (b5 8) (b5 9) (b5 10) (b5 11) (b5 12) (b5 13) (b5 14)), (mp_arI E (b5 3) 0 36 (fun _ => 0)), (mp_arL E (b5 4) 12 (fun _ => 0)), (mp_arI E (b5 5) 0 6 (fun _ => 0)), (mp_arI E (b5 6) 0 6 (fun _ => 0)), (mp_arI E (b5 7) 0 6 (fun _ => 0)), (mp_arI E (b5 8) 0 10 (fun _ => 0)), (mp_arI E (b5 9) 0 10 (fun _ => 0)), (mp_arI E (b5 10) 0 10 (fun _ => 0)), (mp_arI E (b5 11) 0 10 (fun _ => 0)), (mp_arI E (b5 12) 0 10 (fun _ => 0)), (mp_arI E (b5 13) 0 10 (fun _ => 0)), (mp_arI E (b5 14) 0 60 (fun _ => 0)), (mp_ob0 q7 (b11 1) 0 (b11 14) (b11 15) (b11 16) (b11 17) (b11 18) (b11 19)), (mp_ob7 (b11 1) 0 0 0 0 0 0 (b11 2) (b11 3) (b11 4) (b11 5) (b11 6) (b11 7) (b11 8) (b11 9) (b11 10) (b11 11) (b11 12) (b11 13)), (mp_arI E (b11 2) 0 36 (fun _ => 0)), (mp_arL E (b11 3) 12 (fun _ => 0)), (mp_arI E (b11 4) 0 6 (fun _ => 0)), (mp_arI E (b11 5) 0 6 (fun _ => 0)), (mp_arI E (b11 6) 0 6 (fun _ => 0)), (mp_arI E (b11 7) 0 10 (fun _ => 0)), (mp_arI E (b11 8) 0 10 (fun _ => 0)), (mp_arI E (b11 9) 0 10 (fun _ => 0)), (mp_arI E (b11 10) 0 10 (fun _ => 0)), (mp_arI E (b11 11) 0 10 (fun _ => 0)), (mp_arI E (b11 12) 0 10 (fun _ => 0)), (mp_arI E (b11 13) 0 60 (fun _ => 0)), (mp_arI E (b11 14) 0 6 (fun _ => 0)), (mp_arI E (b11 15) 0 6 (fun _ => 0)), (mp_arI E (b11 16) 0 6 (fun _ => 0)), (mp_arL E (b11 17) 20 (fun _ => 0)), (mp_arI E (b11 18) 0 10 (fun _ => 0)), (mp_arI E (b11 19) 0 10 (fun _ => 0))]
  show mp_W E X 1 26 [(0, .ref h0)] [] w6_ 35 2084
  refine mp_run mp_k_cX9_init_ok hF mp_tabX9_ok [mp_i (.aload_n 0), mp_c (.iconst 3) 3] (by decide +kernel) ?_
  show mp_W E X 1 28 [(0, .ref h0)] [.int 3, .ref h0] w6_ 35 2084
  refine mp_newq hF (idx := 23) (mp_gm (j := 1227) (by decide +kernel)) (N := 3) (by decide) (by decide) (by decide) ⟨(Nat.le_of_ble_eq_true rfl), (Nat.le_of_ble_eq_true rfl)⟩ (by first | exact mp_fd_ok mp_k_cX9_init_ok (by decide +kernel) | decide +kernel) (fun q13 => ?_)
  let w7_ : va_W := [(h0, .inr (9, [.ref q1, .ref q7, .null, .null, .null, .null, .null, .null, .null])), (mp_ob3 q1 (b5 1) 0 (b5 2) 0 (-1) 0 0 0 0 0), (mp_arI E (b5 1) 1 1600 (fun _ => 0)), (mp_ob7 (b5 2) 0 0 0 0 0 0 (b5 3) (b5 4) (b5 5) (b5 6) (b5 7) (b5 8) (b5 9) (b5 10) (b5 11) (b5 12) (b5 13) (b5 14)), (mp_arI E (b5 3) 0 36 (fun _ => 0)), (mp_arL E (b5 4) 12 (fun _ => 0)), (mp_arI E (b5 5) 0 6 (fun _ => 0)), (mp_arI E (b5 6) 0 6 (fun _ => 0)), (mp_arI E (b5 7) 0 6 (fun _ => 0)), (mp_arI E (b5 8) 0 10 (fun _ => 0)), (mp_arI E (b5 9) 0 10 (fun _ => 0)), (mp_arI E (b5 10) 0 10 (fun _ => 0)), (mp_arI E (b5 11) 0 10 (fun _ => 0)), (mp_arI E (b5 12) 0 10 (fun _ => 0)), (mp_arI E (b5 13) 0 10 (fun _ => 0)), (mp_arI E (b5 14) 0 60 (fun _ => 0)), (mp_ob0 q7 (b11 1) 0 (b11 14) (b11 15) (b11 16) (b11 17) (b11 18) (b11 19)), (mp_ob7 (b11 1) 0 0 0 0 0 0 (b11 2) (b11 3) (b11 4) (b11 5) (b11 6) (b11 7) (b11 8) (b11 9) (b11 10) (b11 11) (b11 12) (b11 13)), (mp_arI E (b11 2) 0 36 (fun _ => 0)), (mp_arL E (b11 3) 12 (fun _ => 0)), (mp_arI E (b11 4) 0 6 (fun _ => 0)), (mp_arI E (b11 5) 0 6 (fun _ => 0)), (mp_arI E (b11 6) 0 6 (fun _ => 0)), (mp_arI E (b11 7) 0 10 (fun _ => 0)), (mp_arI E (b11 8) 0 10 (fun _ => 0)), (mp_arI E (b11 9) 0 10 (fun _ => 0)), (mp_arI E (b11 10) 0 10 (fun _ => 0)), (mp_arI E (b11 11) 0 10 (fun _ => 0)), (mp_arI E (b11 12) 0 10 (fun _ => 0)), (mp_arI E (b11 13) 0 60 (fun _ => 0)), (mp_arI E (b11 14) 0 6 (fun _ => 0)), (mp_arI E (b11 15) 0 6 (fun _ => 0)), (mp_arI E (b11 16) 0 6 (fun _ => 0)), (mp_arL E (b11 17) 20 (fun _ => 0)), (mp_arI E (b11 18) 0 10 (fun _ => 0)), (mp_arI E (b11 19) 0 10 (fun _ => 0)), (q13, .inl (E.2.2 4, 3, .inr (.inr (.inr (.inr (fun _ => none))))))]
  show mp_W E X 1 31 [(0, .ref h0)] [.ref q13, .ref h0] w7_ 36 2087
  refine mp_run mp_k_cX9_init_ok hF mp_tabX9_ok [mp_h (.putfield 25) [38, 0]] (by decide +kernel) ?_
  refine And.intro rfl (And.intro rfl (And.intro rfl (And.intro rfl (And.intro (Nat.le_of_ble_eq_true rfl) ?_))))
  let w8_ : va_W := [(h0, .inr (9, [.ref q1, .ref q7, .ref q13, .null, .null, .null, .null, .null, .null])), (mp_ob3 q1 (b5 1) 0 (b5 2) 0 (-1) 0 0 0 0 0), (mp_arI E (b5 1) 1 1600 (fun _ => 0)), (mp_ob7 (b5 2) 0 0 0 0 0 0 (b5 3) (b5 4) (b5 5) (b5 6) (b5 7) (b5 8) (b5 9) (b5 10) (b5 11) (b5 12) (b5 13) (b5 14)), (mp_arI E (b5 3) 0 36 (fun _ => 0)), (mp_arL E (b5 4) 12 (fun _ => 0)), (mp_arI E (b5 5) 0 6 (fun _ => 0)), (mp_arI E (b5 6) 0 6 (fun _ => 0)), (mp_arI E (b5 7) 0 6 (fun _ => 0)), (mp_arI E (b5 8) 0 10 (fun _ => 0)), (mp_arI E (b5 9) 0 10 (fun _ => 0)), (mp_arI E (b5 10) 0 10 (fun _ => 0)), (mp_arI E (b5 11) 0 10 (fun _ => 0)), (mp_arI E (b5 12) 0 10 (fun _ => 0)), (mp_arI E (b5 13) 0 10 (fun _ => 0)), (mp_arI E (b5 14) 0 60 (fun _ => 0)), (mp_ob0 q7 (b11 1) 0 (b11 14) (b11 15) (b11 16) (b11 17) (b11 18) (b11 19)), (mp_ob7 (b11 1) 0 0 0 0 0 0 (b11 2) (b11 3) (b11 4) (b11 5) (b11 6) (b11 7) (b11 8) (b11 9) (b11 10) (b11 11) (b11 12) (b11 13)), (mp_arI E (b11 2) 0 36 (fun _ => 0)), (mp_arL E (b11 3) 12 (fun _ => 0)), (mp_arI E (b11 4) 0 6 (fun _ => 0)), (mp_arI E (b11 5) 0 6 (fun _ => 0)), (mp_arI E (b11 6) 0 6 (fun _ => 0)), (mp_arI E (b11 7) 0 10 (fun _ => 0)), (mp_arI E (b11 8) 0 10 (fun _ => 0)), (mp_arI E (b11 9) 0 10 (fun _ => 0)), (mp_arI E (b11 10) 0 10 (fun _ => 0)), (mp_arI E (b11 11) 0 10 (fun _ => 0)), (mp_arI E (b11 12) 0 10 (fun _ => 0)), (mp_arI E (b11 13) 0 60 (fun _ => 0)), (mp_arI E (b11 14) 0 6 (fun _ => 0)), (mp_arI E (b11 15) 0 6 (fun _ => 0)), (mp_arI E (b11 16) 0 6 (fun _ => 0)), (mp_arL E (b11 17) 20 (fun _ => 0)), (mp_arI E (b11 18) 0 10 (fun _ => 0)), (mp_arI E (b11 19) 0 10 (fun _ => 0)), (q13, .inl (E.2.2 4, 3, .inr (.inr (.inr (.inr (fun _ => none))))))]
  show mp_W E X 1 34 [(0, .ref h0)] [] w8_ 36 2087
  refine mp_run mp_k_cX9_init_ok hF mp_tabX9_ok [mp_i (.aload_n 0)] (by decide +kernel) ?_
  show mp_W E X 1 35 [(0, .ref h0)] [.ref h0] w8_ 36 2087
  refine mp_new hF (mp_lnX9_29) ⟨(Nat.le_of_ble_eq_true rfl), (Nat.le_of_ble_eq_true rfl)⟩ (by first | exact mp_fd_ok mp_k_cX9_init_ok (by decide +kernel) | decide +kernel) (fun q14 => ?_)
  let w9_ : va_W := [(h0, .inr (9, [.ref q1, .ref q7, .ref q13, .null, .null, .null, .null, .null, .null])), (mp_ob3 q1 (b5 1) 0 (b5 2) 0 (-1) 0 0 0 0 0), (mp_arI E (b5 1) 1 1600 (fun _ => 0)), (mp_ob7 (b5 2) 0 0 0 0 0 0 (b5 3) (b5 4) (b5 5) (b5 6) (b5 7) (b5 8) (b5 9) (b5 10) (b5 11) (b5 12) (b5 13) (b5 14)), (mp_arI E (b5 3) 0 36 (fun _ => 0)), (mp_arL E (b5 4) 12 (fun _ => 0)), (mp_arI E (b5 5) 0 6 (fun _ => 0)), (mp_arI E (b5 6) 0 6 (fun _ => 0)), (mp_arI E (b5 7) 0 6 (fun _ => 0)), (mp_arI E (b5 8) 0 10 (fun _ => 0)), (mp_arI E (b5 9) 0 10 (fun _ => 0)), (mp_arI E (b5 10) 0 10 (fun _ => 0)), (mp_arI E (b5 11) 0 10 (fun _ => 0)), (mp_arI E (b5 12) 0 10 (fun _ => 0)), (mp_arI E (b5 13) 0 10 (fun _ => 0)), (mp_arI E (b5 14) 0 60 (fun _ => 0)), (mp_ob0 q7 (b11 1) 0 (b11 14) (b11 15) (b11 16) (b11 17) (b11 18) (b11 19)), (mp_ob7 (b11 1) 0 0 0 0 0 0 (b11 2) (b11 3) (b11 4) (b11 5) (b11 6) (b11 7) (b11 8) (b11 9) (b11 10) (b11 11) (b11 12) (b11 13)), (mp_arI E (b11 2) 0 36 (fun _ => 0)), (mp_arL E (b11 3) 12 (fun _ => 0)), (mp_arI E (b11 4) 0 6 (fun _ => 0)), (mp_arI E (b11 5) 0 6 (fun _ => 0)), (mp_arI E (b11 6) 0 6 (fun _ => 0)), (mp_arI E (b11 7) 0 10 (fun _ => 0)), (mp_arI E (b11 8) 0 10 (fun _ => 0)), (mp_arI E (b11 9) 0 10 (fun _ => 0)), (mp_arI E (b11 10) 0 10 (fun _ => 0)), (mp_arI E (b11 11) 0 10 (fun _ => 0)), (mp_arI E (b11 12) 0 10 (fun _ => 0)), (mp_arI E (b11 13) 0 60 (fun _ => 0)), (mp_arI E (b11 14) 0 6 (fun _ => 0)), (mp_arI E (b11 15) 0 6 (fun _ => 0)), (mp_arI E (b11 16) 0 6 (fun _ => 0)), (mp_arL E (b11 17) 20 (fun _ => 0)), (mp_arI E (b11 18) 0 10 (fun _ => 0)), (mp_arI E (b11 19) 0 10 (fun _ => 0)), (q13, .inl (E.2.2 4, 3, .inr (.inr (.inr (.inr (fun _ => none)))))), (q14, .inr (1, [.null, .int 0, .int 0, .null]))]
  show mp_W E X 1 38 [(0, .ref h0)] [.ref q14, .ref h0] w9_ 37 2091
  refine mp_run mp_k_cX9_init_ok hF mp_tabX9_ok [mp_i .dup] (by decide +kernel) ?_
  refine And.intro rfl ?_
  show mp_W E X 1 39 [(0, .ref h0)] [.ref q14, .ref q14, .ref h0] w9_ 37 2091
  refine mp_callIN hF (As := []) (rest := [.ref q14, .ref h0]) (wr := w8_) (k_Ledger E q14) rfl (mp_gm (j := 1232) (by decide +kernel)) mp_lkX9_31 [37] [0, 1, 2, 3, 4, 5, 6, 7, 8, 9, 10, 11, 12, 13, 14, 15, 16, 17, 18, 19, 20, 21, 22, 23, 24, 25, 26, 27, 28, 29, 30, 31, 32, 33, 34, 35, 36] rfl rfl rfl rfl rfl ⟨(Nat.le_of_ble_eq_true rfl), (Nat.le_of_ble_eq_true rfl), (Nat.le_of_ble_eq_true rfl), (Nat.le_of_ble_eq_true rfl)⟩ (Nat.le_of_ble_eq_true rfl) (by first | exact mp_fd_ok mp_k_cX9_init_ok (by decide +kernel) | decide +kernel) (fun v15 w16 h17 => ?_)
  obtain ⟨rfl, b18, h19, rfl⟩ := h17
  clear h19
  let w10_ : va_W := [(h0, .inr (9, [.ref q1, .ref q7, .ref q13, .null, .null, .null, .null, .null, .null])), (mp_ob3 q1 (b5 1) 0 (b5 2) 0 (-1) 0 0 0 0 0), (mp_arI E (b5 1) 1 1600 (fun _ => 0)), (mp_ob7 (b5 2) 0 0 0 0 0 0 (b5 3) (b5 4) (b5 5) (b5 6) (b5 7) (b5 8) (b5 9) (b5 10) (b5 11) (b5 12) (b5 13) (b5 14)), (mp_arI E (b5 3) 0 36 (fun _ => 0)), (mp_arL E (b5 4) 12 (fun _ => 0)), (mp_arI E (b5 5) 0 6 (fun _ => 0)), (mp_arI E (b5 6) 0 6 (fun _ => 0)), (mp_arI E (b5 7) 0 6 (fun _ => 0)), (mp_arI E (b5 8) 0 10 (fun _ => 0)), (mp_arI E (b5 9) 0 10 (fun _ => 0)), (mp_arI E (b5 10) 0 10 (fun _ => 0)), (mp_arI E (b5 11) 0 10 (fun _ => 0)), (mp_arI E (b5 12) 0 10 (fun _ => 0)), (mp_arI E (b5 13) 0 10 (fun _ => 0)), (mp_arI E (b5 14) 0 60 (fun _ => 0)), (mp_ob0 q7 (b11 1) 0 (b11 14) (b11 15) (b11 16) (b11 17) (b11 18) (b11 19)), (mp_ob7 (b11 1) 0 0 0 0 0 0 (b11 2) (b11 3) (b11 4) (b11 5) (b11 6) (b11 7) (b11 8) (b11 9) (b11 10) (b11 11) (b11 12) (b11 13)), (mp_arI E (b11 2) 0 36 (fun _ => 0)), (mp_arL E (b11 3) 12 (fun _ => 0)), (mp_arI E (b11 4) 0 6 (fun _ => 0)), (mp_arI E (b11 5) 0 6 (fun _ => 0)), (mp_arI E (b11 6) 0 6 (fun _ => 0)), (mp_arI E (b11 7) 0 10 (fun _ => 0)), (mp_arI E (b11 8) 0 10 (fun _ => 0)), (mp_arI E (b11 9) 0 10 (fun _ => 0)), (mp_arI E (b11 10) 0 10 (fun _ => 0)), (mp_arI E (b11 11) 0 10 (fun _ => 0)), (mp_arI E (b11 12) 0 10 (fun _ => 0)), (mp_arI E (b11 13) 0 60 (fun _ => 0)), (mp_arI E (b11 14) 0 6 (fun _ => 0)), (mp_arI E (b11 15) 0 6 (fun _ => 0)), (mp_arI E (b11 16) 0 6 (fun _ => 0)), (mp_arL E (b11 17) 20 (fun _ => 0)), (mp_arI E (b11 18) 0 10 (fun _ => 0)), (mp_arI E (b11 19) 0 10 (fun _ => 0)), (q13, .inl (E.2.2 4, 3, .inr (.inr (.inr (.inr (fun _ => none)))))), (mp_ob1 q14 (b18 1) 0 0 (b18 2)), (mp_arI E (b18 1) 0 36 (fun _ => 0)), (mp_arI E (b18 2) 0 3 (fun _ => 0))]
  show mp_W E X 1 42 [(0, .ref h0)] [.ref q14, .ref h0] w10_ 39 2130
  refine mp_run mp_k_cX9_init_ok hF mp_tabX9_ok [mp_h (.putfield 32) [39, 0]] (by decide +kernel) ?_
  refine And.intro rfl (And.intro rfl (And.intro rfl (And.intro rfl (And.intro (Nat.le_of_ble_eq_true rfl) ?_))))
  let w11_ : va_W := [(h0, .inr (9, [.ref q1, .ref q7, .ref q13, .ref q14, .null, .null, .null, .null, .null])), (mp_ob3 q1 (b5 1) 0 (b5 2) 0 (-1) 0 0 0 0 0), (mp_arI E (b5 1) 1 1600 (fun _ => 0)), (mp_ob7 (b5 2) 0 0 0 0 0 0 (b5 3) (b5 4) (b5 5) (b5 6) (b5 7) (b5 8) (b5 9) (b5 10) (b5 11) (b5 12) (b5 13) (b5 14)), (mp_arI E (b5 3) 0 36 (fun _ => 0)), (mp_arL E (b5 4) 12 (fun _ => 0)), (mp_arI E (b5 5) 0 6 (fun _ => 0)), (mp_arI E (b5 6) 0 6 (fun _ => 0)), (mp_arI E (b5 7) 0 6 (fun _ => 0)), (mp_arI E (b5 8) 0 10 (fun _ => 0)), (mp_arI E (b5 9) 0 10 (fun _ => 0)), (mp_arI E (b5 10) 0 10 (fun _ => 0)), (mp_arI E (b5 11) 0 10 (fun _ => 0)), (mp_arI E (b5 12) 0 10 (fun _ => 0)), (mp_arI E (b5 13) 0 10 (fun _ => 0)), (mp_arI E (b5 14) 0 60 (fun _ => 0)), (mp_ob0 q7 (b11 1) 0 (b11 14) (b11 15) (b11 16) (b11 17) (b11 18) (b11 19)), (mp_ob7 (b11 1) 0 0 0 0 0 0 (b11 2) (b11 3) (b11 4) (b11 5) (b11 6) (b11 7) (b11 8) (b11 9) (b11 10) (b11 11) (b11 12) (b11 13)), (mp_arI E (b11 2) 0 36 (fun _ => 0)), (mp_arL E (b11 3) 12 (fun _ => 0)), (mp_arI E (b11 4) 0 6 (fun _ => 0)), (mp_arI E (b11 5) 0 6 (fun _ => 0)), (mp_arI E (b11 6) 0 6 (fun _ => 0)), (mp_arI E (b11 7) 0 10 (fun _ => 0)), (mp_arI E (b11 8) 0 10 (fun _ => 0)), (mp_arI E (b11 9) 0 10 (fun _ => 0)), (mp_arI E (b11 10) 0 10 (fun _ => 0)), (mp_arI E (b11 11) 0 10 (fun _ => 0)), (mp_arI E (b11 12) 0 10 (fun _ => 0)), (mp_arI E (b11 13) 0 60 (fun _ => 0)), (mp_arI E (b11 14) 0 6 (fun _ => 0)), (mp_arI E (b11 15) 0 6 (fun _ => 0)), (mp_arI E (b11 16) 0 6 (fun _ => 0)), (mp_arL E (b11 17) 20 (fun _ => 0)), (mp_arI E (b11 18) 0 10 (fun _ => 0)), (mp_arI E (b11 19) 0 10 (fun _ => 0)), (q13, .inl (E.2.2 4, 3, .inr (.inr (.inr (.inr (fun _ => none)))))), (mp_ob1 q14 (b18 1) 0 0 (b18 2)), (mp_arI E (b18 1) 0 36 (fun _ => 0)), (mp_arI E (b18 2) 0 3 (fun _ => 0))]
  show mp_W E X 1 45 [(0, .ref h0)] [] w11_ 39 2130
  refine mp_run mp_k_cX9_init_ok hF mp_tabX9_ok [mp_i (.aload_n 0)] (by decide +kernel) ?_
  show mp_W E X 1 46 [(0, .ref h0)] [.ref h0] w11_ 39 2130
  refine mp_new hF (mp_lnX9_36) ⟨(Nat.le_of_ble_eq_true rfl), (Nat.le_of_ble_eq_true rfl)⟩ (by first | exact mp_fd_ok mp_k_cX9_init_ok (by decide +kernel) | decide +kernel) (fun q20 => ?_)
  let w12_ : va_W := [(h0, .inr (9, [.ref q1, .ref q7, .ref q13, .ref q14, .null, .null, .null, .null, .null])), (mp_ob3 q1 (b5 1) 0 (b5 2) 0 (-1) 0 0 0 0 0), (mp_arI E (b5 1) 1 1600 (fun _ => 0)), (mp_ob7 (b5 2) 0 0 0 0 0 0 (b5 3) (b5 4) (b5 5) (b5 6) (b5 7) (b5 8) (b5 9) (b5 10) (b5 11) (b5 12) (b5 13) (b5 14)), (mp_arI E (b5 3) 0 36 (fun _ => 0)), (mp_arL E (b5 4) 12 (fun _ => 0)), (mp_arI E (b5 5) 0 6 (fun _ => 0)), (mp_arI E (b5 6) 0 6 (fun _ => 0)), (mp_arI E (b5 7) 0 6 (fun _ => 0)), (mp_arI E (b5 8) 0 10 (fun _ => 0)), (mp_arI E (b5 9) 0 10 (fun _ => 0)), (mp_arI E (b5 10) 0 10 (fun _ => 0)), (mp_arI E (b5 11) 0 10 (fun _ => 0)), (mp_arI E (b5 12) 0 10 (fun _ => 0)), (mp_arI E (b5 13) 0 10 (fun _ => 0)), (mp_arI E (b5 14) 0 60 (fun _ => 0)), (mp_ob0 q7 (b11 1) 0 (b11 14) (b11 15) (b11 16) (b11 17) (b11 18) (b11 19)), (mp_ob7 (b11 1) 0 0 0 0 0 0 (b11 2) (b11 3) (b11 4) (b11 5) (b11 6) (b11 7) (b11 8) (b11 9) (b11 10) (b11 11) (b11 12) (b11 13)), (mp_arI E (b11 2) 0 36 (fun _ => 0)), (mp_arL E (b11 3) 12 (fun _ => 0)), (mp_arI E (b11 4) 0 6 (fun _ => 0)), (mp_arI E (b11 5) 0 6 (fun _ => 0)), (mp_arI E (b11 6) 0 6 (fun _ => 0)), (mp_arI E (b11 7) 0 10 (fun _ => 0)), (mp_arI E (b11 8) 0 10 (fun _ => 0)), (mp_arI E (b11 9) 0 10 (fun _ => 0)), (mp_arI E (b11 10) 0 10 (fun _ => 0)), (mp_arI E (b11 11) 0 10 (fun _ => 0)), (mp_arI E (b11 12) 0 10 (fun _ => 0)), (mp_arI E (b11 13) 0 60 (fun _ => 0)), (mp_arI E (b11 14) 0 6 (fun _ => 0)), (mp_arI E (b11 15) 0 6 (fun _ => 0)), (mp_arI E (b11 16) 0 6 (fun _ => 0)), (mp_arL E (b11 17) 20 (fun _ => 0)), (mp_arI E (b11 18) 0 10 (fun _ => 0)), (mp_arI E (b11 19) 0 10 (fun _ => 0)), (q13, .inl (E.2.2 4, 3, .inr (.inr (.inr (.inr (fun _ => none)))))), (mp_ob1 q14 (b18 1) 0 0 (b18 2)), (mp_arI E (b18 1) 0 36 (fun _ => 0)), (mp_arI E (b18 2) 0 3 (fun _ => 0)), (q20, .inr (2, [.int 0, .int 0, .int 0, .int 0, .null, .null, .null, .null, .null, .int 0, .int 0]))]
  show mp_W E X 1 49 [(0, .ref h0)] [.ref q20, .ref h0] w12_ 40 2141
  refine mp_run mp_k_cX9_init_ok hF mp_tabX9_ok [mp_i .dup] (by decide +kernel) ?_
  refine And.intro rfl ?_
  show mp_W E X 1 50 [(0, .ref h0)] [.ref q20, .ref q20, .ref h0] w12_ 40 2141
  refine mp_callIN hF (As := []) (rest := [.ref q20, .ref h0]) (wr := w11_) (k_Planner E q20) rfl (mp_gm (j := 2013) (by decide +kernel)) mp_lkX9_38 [40] [0, 1, 2, 3, 4, 5, 6, 7, 8, 9, 10, 11, 12, 13, 14, 15, 16, 17, 18, 19, 20, 21, 22, 23, 24, 25, 26, 27, 28, 29, 30, 31, 32, 33, 34, 35, 36, 37, 38, 39] rfl rfl rfl rfl rfl ⟨(Nat.le_of_ble_eq_true rfl), (Nat.le_of_ble_eq_true rfl), (Nat.le_of_ble_eq_true rfl), (Nat.le_of_ble_eq_true rfl)⟩ (Nat.le_of_ble_eq_true rfl) (by first | exact mp_fd_ok mp_k_cX9_init_ok (by decide +kernel) | decide +kernel) (fun v21 w22 h23 => ?_)
  obtain ⟨rfl, b24, h25, rfl⟩ := h23
  clear h25
  let w13_ : va_W := [(h0, .inr (9, [.ref q1, .ref q7, .ref q13, .ref q14, .null, .null, .null, .null, .null])), (mp_ob3 q1 (b5 1) 0 (b5 2) 0 (-1) 0 0 0 0 0), (mp_arI E (b5 1) 1 1600 (fun _ => 0)), (mp_ob7 (b5 2) 0 0 0 0 0 0 (b5 3) (b5 4) (b5 5) (b5 6) (b5 7) (b5 8) (b5 9) (b5 10) (b5 11) (b5 12) (b5 13) (b5 14)), (mp_arI E (b5 3) 0 36 (fun _ => 0)), (mp_arL E (b5 4) 12 (fun _ => 0)), (mp_arI E (b5 5) 0 6 (fun _ => 0)), (mp_arI E (b5 6) 0 6 (fun _ => 0)), (mp_arI E (b5 7) 0 6 (fun _ => 0)), (mp_arI E (b5 8) 0 10 (fun _ => 0)), (mp_arI E (b5 9) 0 10 (fun _ => 0)), (mp_arI E (b5 10) 0 10 (fun _ => 0)), (mp_arI E (b5 11) 0 10 (fun _ => 0)), (mp_arI E (b5 12) 0 10 (fun _ => 0)), (mp_arI E (b5 13) 0 10 (fun _ => 0)), (mp_arI E (b5 14) 0 60 (fun _ => 0)), (mp_ob0 q7 (b11 1) 0 (b11 14) (b11 15) (b11 16) (b11 17) (b11 18) (b11 19)), (mp_ob7 (b11 1) 0 0 0 0 0 0 (b11 2) (b11 3) (b11 4) (b11 5) (b11 6) (b11 7) (b11 8) (b11 9) (b11 10) (b11 11) (b11 12) (b11 13)), (mp_arI E (b11 2) 0 36 (fun _ => 0)), (mp_arL E (b11 3) 12 (fun _ => 0)), (mp_arI E (b11 4) 0 6 (fun _ => 0)), (mp_arI E (b11 5) 0 6 (fun _ => 0)), (mp_arI E (b11 6) 0 6 (fun _ => 0)), (mp_arI E (b11 7) 0 10 (fun _ => 0)), (mp_arI E (b11 8) 0 10 (fun _ => 0)), (mp_arI E (b11 9) 0 10 (fun _ => 0)), (mp_arI E (b11 10) 0 10 (fun _ => 0)), (mp_arI E (b11 11) 0 10 (fun _ => 0)), (mp_arI E (b11 12) 0 10 (fun _ => 0)), (mp_arI E (b11 13) 0 60 (fun _ => 0)), (mp_arI E (b11 14) 0 6 (fun _ => 0)), (mp_arI E (b11 15) 0 6 (fun _ => 0)), (mp_arI E (b11 16) 0 6 (fun _ => 0)), (mp_arL E (b11 17) 20 (fun _ => 0)), (mp_arI E (b11 18) 0 10 (fun _ => 0)), (mp_arI E (b11 19) 0 10 (fun _ => 0)), (q13, .inl (E.2.2 4, 3, .inr (.inr (.inr (.inr (fun _ => none)))))), (mp_ob1 q14 (b18 1) 0 0 (b18 2)), (mp_arI E (b18 1) 0 36 (fun _ => 0)), (mp_arI E (b18 2) 0 3 (fun _ => 0)), (mp_ob2 q20 0 0 0 0 (b24 1) (b24 2) (b24 3) (b24 4) (b24 5) 0 0), (mp_arI E (b24 1) 0 432 (fun _ => 0)), (mp_arI E (b24 2) 0 432 (fun _ => 0)), (mp_arI E (b24 3) 0 72 (fun _ => 0)), (mp_arI E (b24 4) 0 78 (fun _ => 0)), (mp_arL E (b24 5) 78 (fun _ => 0))]
  show mp_W E X 1 53 [(0, .ref h0)] [.ref q20, .ref h0] w13_ 45 3233
  refine mp_run mp_k_cX9_init_ok hF mp_tabX9_ok [mp_h (.putfield 39) [40, 0]] (by decide +kernel) ?_
  refine And.intro rfl (And.intro rfl (And.intro rfl (And.intro rfl (And.intro (Nat.le_of_ble_eq_true rfl) ?_))))
  let w14_ : va_W := [(h0, .inr (9, [.ref q1, .ref q7, .ref q13, .ref q14, .ref q20, .null, .null, .null, .null])), (mp_ob3 q1 (b5 1) 0 (b5 2) 0 (-1) 0 0 0 0 0), (mp_arI E (b5 1) 1 1600 (fun _ => 0)), (mp_ob7 (b5 2) 0 0 0 0 0 0 (b5 3) (b5 4) (b5 5) (b5 6) (b5 7) (b5 8) (b5 9) (b5 10) (b5 11) (b5 12) (b5 13) (b5 14)), (mp_arI E (b5 3) 0 36 (fun _ => 0)), (mp_arL E (b5 4) 12 (fun _ => 0)), (mp_arI E (b5 5) 0 6 (fun _ => 0)), (mp_arI E (b5 6) 0 6 (fun _ => 0)), (mp_arI E (b5 7) 0 6 (fun _ => 0)), (mp_arI E (b5 8) 0 10 (fun _ => 0)), (mp_arI E (b5 9) 0 10 (fun _ => 0)), (mp_arI E (b5 10) 0 10 (fun _ => 0)), (mp_arI E (b5 11) 0 10 (fun _ => 0)), (mp_arI E (b5 12) 0 10 (fun _ => 0)), (mp_arI E (b5 13) 0 10 (fun _ => 0)), (mp_arI E (b5 14) 0 60 (fun _ => 0)), (mp_ob0 q7 (b11 1) 0 (b11 14) (b11 15) (b11 16) (b11 17) (b11 18) (b11 19)), (mp_ob7 (b11 1) 0 0 0 0 0 0 (b11 2) (b11 3) (b11 4) (b11 5) (b11 6) (b11 7) (b11 8) (b11 9) (b11 10) (b11 11) (b11 12) (b11 13)), (mp_arI E (b11 2) 0 36 (fun _ => 0)), (mp_arL E (b11 3) 12 (fun _ => 0)), (mp_arI E (b11 4) 0 6 (fun _ => 0)), (mp_arI E (b11 5) 0 6 (fun _ => 0)), (mp_arI E (b11 6) 0 6 (fun _ => 0)), (mp_arI E (b11 7) 0 10 (fun _ => 0)), (mp_arI E (b11 8) 0 10 (fun _ => 0)), (mp_arI E (b11 9) 0 10 (fun _ => 0)), (mp_arI E (b11 10) 0 10 (fun _ => 0)), (mp_arI E (b11 11) 0 10 (fun _ => 0)), (mp_arI E (b11 12) 0 10 (fun _ => 0)), (mp_arI E (b11 13) 0 60 (fun _ => 0)), (mp_arI E (b11 14) 0 6 (fun _ => 0)), (mp_arI E (b11 15) 0 6 (fun _ => 0)), (mp_arI E (b11 16) 0 6 (fun _ => 0)), (mp_arL E (b11 17) 20 (fun _ => 0)), (mp_arI E (b11 18) 0 10 (fun _ => 0)), (mp_arI E (b11 19) 0 10 (fun _ => 0)), (q13, .inl (E.2.2 4, 3, .inr (.inr (.inr (.inr (fun _ => none)))))), (mp_ob1 q14 (b18 1) 0 0 (b18 2)), (mp_arI E (b18 1) 0 36 (fun _ => 0)), (mp_arI E (b18 2) 0 3 (fun _ => 0)), (mp_ob2 q20 0 0 0 0 (b24 1) (b24 2) (b24 3) (b24 4) (b24 5) 0 0), (mp_arI E (b24 1) 0 432 (fun _ => 0)), (mp_arI E (b24 2) 0 432 (fun _ => 0)), (mp_arI E (b24 3) 0 72 (fun _ => 0)), (mp_arI E (b24 4) 0 78 (fun _ => 0)), (mp_arL E (b24 5) 78 (fun _ => 0))]
  show mp_W E X 1 56 [(0, .ref h0)] [] w14_ 45 3233
  refine mp_run mp_k_cX9_init_ok hF mp_tabX9_ok [mp_i (.aload_n 0)] (by decide +kernel) ?_
  show mp_W E X 1 57 [(0, .ref h0)] [.ref h0] w14_ 45 3233
  refine mp_new hF (mp_lnX9_43) ⟨(Nat.le_of_ble_eq_true rfl), (Nat.le_of_ble_eq_true rfl)⟩ (by first | exact mp_fd_ok mp_k_cX9_init_ok (by decide +kernel) | decide +kernel) (fun q26 => ?_)
  let w15_ : va_W := [(h0, .inr (9, [.ref q1, .ref q7, .ref q13, .ref q14, .ref q20, .null, .null, .null, .null])), (mp_ob3 q1 (b5 1) 0 (b5 2) 0 (-1) 0 0 0 0 0), (mp_arI E (b5 1) 1 1600 (fun _ => 0)), (mp_ob7 (b5 2) 0 0 0 0 0 0 (b5 3) (b5 4) (b5 5) (b5 6) (b5 7) (b5 8) (b5 9) (b5 10) (b5 11) (b5 12) (b5 13) (b5 14)), (mp_arI E (b5 3) 0 36 (fun _ => 0)), (mp_arL E (b5 4) 12 (fun _ => 0)), (mp_arI E (b5 5) 0 6 (fun _ => 0)), (mp_arI E (b5 6) 0 6 (fun _ => 0)), (mp_arI E (b5 7) 0 6 (fun _ => 0)), (mp_arI E (b5 8) 0 10 (fun _ => 0)), (mp_arI E (b5 9) 0 10 (fun _ => 0)), (mp_arI E (b5 10) 0 10 (fun _ => 0)), (mp_arI E (b5 11) 0 10 (fun _ => 0)), (mp_arI E (b5 12) 0 10 (fun _ => 0)), (mp_arI E (b5 13) 0 10 (fun _ => 0)), (mp_arI E (b5 14) 0 60 (fun _ => 0)), (mp_ob0 q7 (b11 1) 0 (b11 14) (b11 15) (b11 16) (b11 17) (b11 18) (b11 19)), (mp_ob7 (b11 1) 0 0 0 0 0 0 (b11 2) (b11 3) (b11 4) (b11 5) (b11 6) (b11 7) (b11 8) (b11 9) (b11 10) (b11 11) (b11 12) (b11 13)), (mp_arI E (b11 2) 0 36 (fun _ => 0)), (mp_arL E (b11 3) 12 (fun _ => 0)), (mp_arI E (b11 4) 0 6 (fun _ => 0)), (mp_arI E (b11 5) 0 6 (fun _ => 0)), (mp_arI E (b11 6) 0 6 (fun _ => 0)), (mp_arI E (b11 7) 0 10 (fun _ => 0)), (mp_arI E (b11 8) 0 10 (fun _ => 0)), (mp_arI E (b11 9) 0 10 (fun _ => 0)), (mp_arI E (b11 10) 0 10 (fun _ => 0)), (mp_arI E (b11 11) 0 10 (fun _ => 0)), (mp_arI E (b11 12) 0 10 (fun _ => 0)), (mp_arI E (b11 13) 0 60 (fun _ => 0)), (mp_arI E (b11 14) 0 6 (fun _ => 0)), (mp_arI E (b11 15) 0 6 (fun _ => 0)), (mp_arI E (b11 16) 0 6 (fun _ => 0)), (mp_arL E (b11 17) 20 (fun _ => 0)), (mp_arI E (b11 18) 0 10 (fun _ => 0)), (mp_arI E (b11 19) 0 10 (fun _ => 0)), (q13, .inl (E.2.2 4, 3, .inr (.inr (.inr (.inr (fun _ => none)))))), (mp_ob1 q14 (b18 1) 0 0 (b18 2)), (mp_arI E (b18 1) 0 36 (fun _ => 0)), (mp_arI E (b18 2) 0 3 (fun _ => 0)), (mp_ob2 q20 0 0 0 0 (b24 1) (b24 2) (b24 3) (b24 4) (b24 5) 0 0), (mp_arI E (b24 1) 0 432 (fun _ => 0)), (mp_arI E (b24 2) 0 432 (fun _ => 0)), (mp_arI E (b24 3) 0 72 (fun _ => 0)), (mp_arI E (b24 4) 0 78 (fun _ => 0)), (mp_arL E (b24 5) 78 (fun _ => 0)), (q26, .inr (4, [.int 0, .int 0, .int 0, .null, .int 0, .int 0, .int 0, .int 0, .int 0, .null]))]
  show mp_W E X 1 60 [(0, .ref h0)] [.ref q26, .ref h0] w15_ 46 3243
  refine mp_run mp_k_cX9_init_ok hF mp_tabX9_ok [mp_i .dup] (by decide +kernel) ?_
  refine And.intro rfl ?_
  show mp_W E X 1 61 [(0, .ref h0)] [.ref q26, .ref q26, .ref h0] w15_ 46 3243
  refine mp_callIN hF (As := []) (rest := [.ref q26, .ref h0]) (wr := w14_) (k_Scales E q26) rfl (mp_gm (j := 2055) (by decide +kernel)) mp_lkX9_45 [46] [0, 1, 2, 3, 4, 5, 6, 7, 8, 9, 10, 11, 12, 13, 14, 15, 16, 17, 18, 19, 20, 21, 22, 23, 24, 25, 26, 27, 28, 29, 30, 31, 32, 33, 34, 35, 36, 37, 38, 39, 40, 41, 42, 43, 44, 45] rfl rfl rfl rfl rfl ⟨(Nat.le_of_ble_eq_true rfl), (Nat.le_of_ble_eq_true rfl), (Nat.le_of_ble_eq_true rfl), (Nat.le_of_ble_eq_true rfl)⟩ (Nat.le_of_ble_eq_true rfl) (by first | exact mp_fd_ok mp_k_cX9_init_ok (by decide +kernel) | decide +kernel) (fun v27 w28 h29 => ?_)
  obtain ⟨rfl, b30, h31, rfl⟩ := h29
  clear h31
  let w16_ : va_W := [(h0, .inr (9, [.ref q1, .ref q7, .ref q13, .ref q14, .ref q20, .null, .null, .null, .null])), (mp_ob3 q1 (b5 1) 0 (b5 2) 0 (-1) 0 0 0 0 0), (mp_arI E (b5 1) 1 1600 (fun _ => 0)), (mp_ob7 (b5 2) 0 0 0 0 0 0 (b5 3) (b5 4) (b5 5) (b5 6) (b5 7) (b5 8) (b5 9) (b5 10) (b5 11) (b5 12) (b5 13) (b5 14)), (mp_arI E (b5 3) 0 36 (fun _ => 0)), (mp_arL E (b5 4) 12 (fun _ => 0)), (mp_arI E (b5 5) 0 6 (fun _ => 0)), (mp_arI E (b5 6) 0 6 (fun _ => 0)), (mp_arI E (b5 7) 0 6 (fun _ => 0)), (mp_arI E (b5 8) 0 10 (fun _ => 0)), (mp_arI E (b5 9) 0 10 (fun _ => 0)), (mp_arI E (b5 10) 0 10 (fun _ => 0)), (mp_arI E (b5 11) 0 10 (fun _ => 0)), (mp_arI E (b5 12) 0 10 (fun _ => 0)), (mp_arI E (b5 13) 0 10 (fun _ => 0)), (mp_arI E (b5 14) 0 60 (fun _ => 0)), (mp_ob0 q7 (b11 1) 0 (b11 14) (b11 15) (b11 16) (b11 17) (b11 18) (b11 19)), (mp_ob7 (b11 1) 0 0 0 0 0 0 (b11 2) (b11 3) (b11 4) (b11 5) (b11 6) (b11 7) (b11 8) (b11 9) (b11 10) (b11 11) (b11 12) (b11 13)), (mp_arI E (b11 2) 0 36 (fun _ => 0)), (mp_arL E (b11 3) 12 (fun _ => 0)), (mp_arI E (b11 4) 0 6 (fun _ => 0)), (mp_arI E (b11 5) 0 6 (fun _ => 0)), (mp_arI E (b11 6) 0 6 (fun _ => 0)), (mp_arI E (b11 7) 0 10 (fun _ => 0)), (mp_arI E (b11 8) 0 10 (fun _ => 0)), (mp_arI E (b11 9) 0 10 (fun _ => 0)), (mp_arI E (b11 10) 0 10 (fun _ => 0)), (mp_arI E (b11 11) 0 10 (fun _ => 0)), (mp_arI E (b11 12) 0 10 (fun _ => 0)), (mp_arI E (b11 13) 0 60 (fun _ => 0)), (mp_arI E (b11 14) 0 6 (fun _ => 0)), (mp_arI E (b11 15) 0 6 (fun _ => 0)), (mp_arI E (b11 16) 0 6 (fun _ => 0)), (mp_arL E (b11 17) 20 (fun _ => 0)), (mp_arI E (b11 18) 0 10 (fun _ => 0)), (mp_arI E (b11 19) 0 10 (fun _ => 0)), (q13, .inl (E.2.2 4, 3, .inr (.inr (.inr (.inr (fun _ => none)))))), (mp_ob1 q14 (b18 1) 0 0 (b18 2)), (mp_arI E (b18 1) 0 36 (fun _ => 0)), (mp_arI E (b18 2) 0 3 (fun _ => 0)), (mp_ob2 q20 0 0 0 0 (b24 1) (b24 2) (b24 3) (b24 4) (b24 5) 0 0), (mp_arI E (b24 1) 0 432 (fun _ => 0)), (mp_arI E (b24 2) 0 432 (fun _ => 0)), (mp_arI E (b24 3) 0 72 (fun _ => 0)), (mp_arI E (b24 4) 0 78 (fun _ => 0)), (mp_arL E (b24 5) 78 (fun _ => 0)), (mp_ob4 q26 0 0 0 (b30 1) 0 0 0 0 0 (b30 2)), (mp_arI E (b30 1) 0 11 (fun _ => 0)), (mp_arI E (b30 2) 0 132 (fun _ => 0))]
  show mp_W E X 1 64 [(0, .ref h0)] [.ref q26, .ref h0] w16_ 48 3386
  refine mp_run mp_k_cX9_init_ok hF mp_tabX9_ok [mp_h (.putfield 46) [41, 0]] (by decide +kernel) ?_
  refine And.intro rfl (And.intro rfl (And.intro rfl (And.intro rfl (And.intro (Nat.le_of_ble_eq_true rfl) ?_))))
  let w17_ : va_W := [(h0, .inr (9, [.ref q1, .ref q7, .ref q13, .ref q14, .ref q20, .ref q26, .null, .null, .null])), (mp_ob3 q1 (b5 1) 0 (b5 2) 0 (-1) 0 0 0 0 0), (mp_arI E (b5 1) 1 1600 (fun _ => 0)), (mp_ob7 (b5 2) 0 0 0 0 0 0 (b5 3) (b5 4) (b5 5) (b5 6) (b5 7) (b5 8) (b5 9) (b5 10) (b5 11) (b5 12) (b5 13) (b5 14)), (mp_arI E (b5 3) 0 36 (fun _ => 0)), (mp_arL E (b5 4) 12 (fun _ => 0)), (mp_arI E (b5 5) 0 6 (fun _ => 0)), (mp_arI E (b5 6) 0 6 (fun _ => 0)), (mp_arI E (b5 7) 0 6 (fun _ => 0)), (mp_arI E (b5 8) 0 10 (fun _ => 0)), (mp_arI E (b5 9) 0 10 (fun _ => 0)), (mp_arI E (b5 10) 0 10 (fun _ => 0)), (mp_arI E (b5 11) 0 10 (fun _ => 0)), (mp_arI E (b5 12) 0 10 (fun _ => 0)), (mp_arI E (b5 13) 0 10 (fun _ => 0)), (mp_arI E (b5 14) 0 60 (fun _ => 0)), (mp_ob0 q7 (b11 1) 0 (b11 14) (b11 15) (b11 16) (b11 17) (b11 18) (b11 19)), (mp_ob7 (b11 1) 0 0 0 0 0 0 (b11 2) (b11 3) (b11 4) (b11 5) (b11 6) (b11 7) (b11 8) (b11 9) (b11 10) (b11 11) (b11 12) (b11 13)), (mp_arI E (b11 2) 0 36 (fun _ => 0)), (mp_arL E (b11 3) 12 (fun _ => 0)), (mp_arI E (b11 4) 0 6 (fun _ => 0)), (mp_arI E (b11 5) 0 6 (fun _ => 0)), (mp_arI E (b11 6) 0 6 (fun _ => 0)), (mp_arI E (b11 7) 0 10 (fun _ => 0)), (mp_arI E (b11 8) 0 10 (fun _ => 0)), (mp_arI E (b11 9) 0 10 (fun _ => 0)), (mp_arI E (b11 10) 0 10 (fun _ => 0)), (mp_arI E (b11 11) 0 10 (fun _ => 0)), (mp_arI E (b11 12) 0 10 (fun _ => 0)), (mp_arI E (b11 13) 0 60 (fun _ => 0)), (mp_arI E (b11 14) 0 6 (fun _ => 0)), (mp_arI E (b11 15) 0 6 (fun _ => 0)), (mp_arI E (b11 16) 0 6 (fun _ => 0)), (mp_arL E (b11 17) 20 (fun _ => 0)), (mp_arI E (b11 18) 0 10 (fun _ => 0)), (mp_arI E (b11 19) 0 10 (fun _ => 0)), (q13, .inl (E.2.2 4, 3, .inr (.inr (.inr (.inr (fun _ => none)))))), (mp_ob1 q14 (b18 1) 0 0 (b18 2)), (mp_arI E (b18 1) 0 36 (fun _ => 0)), (mp_arI E (b18 2) 0 3 (fun _ => 0)), (mp_ob2 q20 0 0 0 0 (b24 1) (b24 2) (b24 3) (b24 4) (b24 5) 0 0), (mp_arI E (b24 1) 0 432 (fun _ => 0)), (mp_arI E (b24 2) 0 432 (fun _ => 0)), (mp_arI E (b24 3) 0 72 (fun _ => 0)), (mp_arI E (b24 4) 0 78 (fun _ => 0)), (mp_arL E (b24 5) 78 (fun _ => 0)), (mp_ob4 q26 0 0 0 (b30 1) 0 0 0 0 0 (b30 2)), (mp_arI E (b30 1) 0 11 (fun _ => 0)), (mp_arI E (b30 2) 0 132 (fun _ => 0))]
  show mp_W E X 1 67 [(0, .ref h0)] [] w17_ 48 3386
  refine mp_run mp_k_cX9_init_ok hF mp_tabX9_ok [mp_i (.aload_n 0)] (by decide +kernel) ?_
  show mp_W E X 1 68 [(0, .ref h0)] [.ref h0] w17_ 48 3386
  refine mp_new hF (mp_lnX9_50) ⟨(Nat.le_of_ble_eq_true rfl), (Nat.le_of_ble_eq_true rfl)⟩ (by first | exact mp_fd_ok mp_k_cX9_init_ok (by decide +kernel) | decide +kernel) (fun q32 => ?_)
  let w18_ : va_W := [(h0, .inr (9, [.ref q1, .ref q7, .ref q13, .ref q14, .ref q20, .ref q26, .null, .null, .null])), (mp_ob3 q1 (b5 1) 0 (b5 2) 0 (-1) 0 0 0 0 0), (mp_arI E (b5 1) 1 1600 (fun _ => 0)), (mp_ob7 (b5 2) 0 0 0 0 0 0 (b5 3) (b5 4) (b5 5) (b5 6) (b5 7) (b5 8) (b5 9) (b5 10) (b5 11) (b5 12) (b5 13) (b5 14)), (mp_arI E (b5 3) 0 36 (fun _ => 0)), (mp_arL E (b5 4) 12 (fun _ => 0)), (mp_arI E (b5 5) 0 6 (fun _ => 0)), (mp_arI E (b5 6) 0 6 (fun _ => 0)), (mp_arI E (b5 7) 0 6 (fun _ => 0)), (mp_arI E (b5 8) 0 10 (fun _ => 0)), (mp_arI E (b5 9) 0 10 (fun _ => 0)), (mp_arI E (b5 10) 0 10 (fun _ => 0)), (mp_arI E (b5 11) 0 10 (fun _ => 0)), (mp_arI E (b5 12) 0 10 (fun _ => 0)), (mp_arI E (b5 13) 0 10 (fun _ => 0)), (mp_arI E (b5 14) 0 60 (fun _ => 0)), (mp_ob0 q7 (b11 1) 0 (b11 14) (b11 15) (b11 16) (b11 17) (b11 18) (b11 19)), (mp_ob7 (b11 1) 0 0 0 0 0 0 (b11 2) (b11 3) (b11 4) (b11 5) (b11 6) (b11 7) (b11 8) (b11 9) (b11 10) (b11 11) (b11 12) (b11 13)), (mp_arI E (b11 2) 0 36 (fun _ => 0)), (mp_arL E (b11 3) 12 (fun _ => 0)), (mp_arI E (b11 4) 0 6 (fun _ => 0)), (mp_arI E (b11 5) 0 6 (fun _ => 0)), (mp_arI E (b11 6) 0 6 (fun _ => 0)), (mp_arI E (b11 7) 0 10 (fun _ => 0)), (mp_arI E (b11 8) 0 10 (fun _ => 0)), (mp_arI E (b11 9) 0 10 (fun _ => 0)), (mp_arI E (b11 10) 0 10 (fun _ => 0)), (mp_arI E (b11 11) 0 10 (fun _ => 0)), (mp_arI E (b11 12) 0 10 (fun _ => 0)), (mp_arI E (b11 13) 0 60 (fun _ => 0)), (mp_arI E (b11 14) 0 6 (fun _ => 0)), (mp_arI E (b11 15) 0 6 (fun _ => 0)), (mp_arI E (b11 16) 0 6 (fun _ => 0)), (mp_arL E (b11 17) 20 (fun _ => 0)), (mp_arI E (b11 18) 0 10 (fun _ => 0)), (mp_arI E (b11 19) 0 10 (fun _ => 0)), (q13, .inl (E.2.2 4, 3, .inr (.inr (.inr (.inr (fun _ => none)))))), (mp_ob1 q14 (b18 1) 0 0 (b18 2)), (mp_arI E (b18 1) 0 36 (fun _ => 0)), (mp_arI E (b18 2) 0 3 (fun _ => 0)), (mp_ob2 q20 0 0 0 0 (b24 1) (b24 2) (b24 3) (b24 4) (b24 5) 0 0), (mp_arI E (b24 1) 0 432 (fun _ => 0)), (mp_arI E (b24 2) 0 432 (fun _ => 0)), (mp_arI E (b24 3) 0 72 (fun _ => 0)), (mp_arI E (b24 4) 0 78 (fun _ => 0)), (mp_arL E (b24 5) 78 (fun _ => 0)), (mp_ob4 q26 0 0 0 (b30 1) 0 0 0 0 0 (b30 2)), (mp_arI E (b30 1) 0 11 (fun _ => 0)), (mp_arI E (b30 2) 0 132 (fun _ => 0)), (q32, .inr (6, [.int 0, .null, .null]))]
  show mp_W E X 1 71 [(0, .ref h0)] [.ref q32, .ref h0] w18_ 49 3389
  refine mp_run mp_k_cX9_init_ok hF mp_tabX9_ok [mp_i .dup] (by decide +kernel) ?_
  refine And.intro rfl ?_
  show mp_W E X 1 72 [(0, .ref h0)] [.ref q32, .ref q32, .ref h0] w18_ 49 3389
  refine mp_callI hF (As := []) (rest := [.ref q32, .ref h0]) (wr := w17_) (k_Threat E q32) mp_lkX9_52 [49] [0, 1, 2, 3, 4, 5, 6, 7, 8, 9, 10, 11, 12, 13, 14, 15, 16, 17, 18, 19, 20, 21, 22, 23, 24, 25, 26, 27, 28, 29, 30, 31, 32, 33, 34, 35, 36, 37, 38, 39, 40, 41, 42, 43, 44, 45, 46, 47, 48] rfl rfl rfl rfl rfl ⟨(Nat.le_of_ble_eq_true rfl), (Nat.le_of_ble_eq_true rfl), (Nat.le_of_ble_eq_true rfl), (Nat.le_of_ble_eq_true rfl)⟩ (Nat.le_of_ble_eq_true rfl) (by first | exact mp_fd_ok mp_k_cX9_init_ok (by decide +kernel) | decide +kernel) (fun v33 w34 h35 => ?_)
  obtain ⟨rfl, b36, g37, h39, f38, rfl⟩ := h35
  clear h39
  let w19_ : va_W := [(h0, .inr (9, [.ref q1, .ref q7, .ref q13, .ref q14, .ref q20, .ref q26, .null, .null, .null])), (mp_ob3 q1 (b5 1) 0 (b5 2) 0 (-1) 0 0 0 0 0), (mp_arI E (b5 1) 1 1600 (fun _ => 0)), (mp_ob7 (b5 2) 0 0 0 0 0 0 (b5 3) (b5 4) (b5 5) (b5 6) (b5 7) (b5 8) (b5 9) (b5 10) (b5 11) (b5 12) (b5 13) (b5 14)), (mp_arI E (b5 3) 0 36 (fun _ => 0)), (mp_arL E (b5 4) 12 (fun _ => 0)), (mp_arI E (b5 5) 0 6 (fun _ => 0)), (mp_arI E (b5 6) 0 6 (fun _ => 0)), (mp_arI E (b5 7) 0 6 (fun _ => 0)), (mp_arI E (b5 8) 0 10 (fun _ => 0)), (mp_arI E (b5 9) 0 10 (fun _ => 0)), (mp_arI E (b5 10) 0 10 (fun _ => 0)), (mp_arI E (b5 11) 0 10 (fun _ => 0)), (mp_arI E (b5 12) 0 10 (fun _ => 0)), (mp_arI E (b5 13) 0 10 (fun _ => 0)), (mp_arI E (b5 14) 0 60 (fun _ => 0)), (mp_ob0 q7 (b11 1) 0 (b11 14) (b11 15) (b11 16) (b11 17) (b11 18) (b11 19)), (mp_ob7 (b11 1) 0 0 0 0 0 0 (b11 2) (b11 3) (b11 4) (b11 5) (b11 6) (b11 7) (b11 8) (b11 9) (b11 10) (b11 11) (b11 12) (b11 13)), (mp_arI E (b11 2) 0 36 (fun _ => 0)), (mp_arL E (b11 3) 12 (fun _ => 0)), (mp_arI E (b11 4) 0 6 (fun _ => 0)), (mp_arI E (b11 5) 0 6 (fun _ => 0)), (mp_arI E (b11 6) 0 6 (fun _ => 0)), (mp_arI E (b11 7) 0 10 (fun _ => 0)), (mp_arI E (b11 8) 0 10 (fun _ => 0)), (mp_arI E (b11 9) 0 10 (fun _ => 0)), (mp_arI E (b11 10) 0 10 (fun _ => 0)), (mp_arI E (b11 11) 0 10 (fun _ => 0)), (mp_arI E (b11 12) 0 10 (fun _ => 0)), (mp_arI E (b11 13) 0 60 (fun _ => 0)), (mp_arI E (b11 14) 0 6 (fun _ => 0)), (mp_arI E (b11 15) 0 6 (fun _ => 0)), (mp_arI E (b11 16) 0 6 (fun _ => 0)), (mp_arL E (b11 17) 20 (fun _ => 0)), (mp_arI E (b11 18) 0 10 (fun _ => 0)), (mp_arI E (b11 19) 0 10 (fun _ => 0)), (q13, .inl (E.2.2 4, 3, .inr (.inr (.inr (.inr (fun _ => none)))))), (mp_ob1 q14 (b18 1) 0 0 (b18 2)), (mp_arI E (b18 1) 0 36 (fun _ => 0)), (mp_arI E (b18 2) 0 3 (fun _ => 0)), (mp_ob2 q20 0 0 0 0 (b24 1) (b24 2) (b24 3) (b24 4) (b24 5) 0 0), (mp_arI E (b24 1) 0 432 (fun _ => 0)), (mp_arI E (b24 2) 0 432 (fun _ => 0)), (mp_arI E (b24 3) 0 72 (fun _ => 0)), (mp_arI E (b24 4) 0 78 (fun _ => 0)), (mp_arL E (b24 5) 78 (fun _ => 0)), (mp_ob4 q26 0 0 0 (b30 1) 0 0 0 0 0 (b30 2)), (mp_arI E (b30 1) 0 11 (fun _ => 0)), (mp_arI E (b30 2) 0 132 (fun _ => 0)), (mp_ob6 q32 0 (b36 1) (b36 2)), (mp_arI E (b36 1) 0 8 (fun _ => 0)), (mp_arI E (b36 2) 0 100 g37)]
  show mp_W E X 1 75 [(0, .ref h0)] [.ref q32, .ref h0] w19_ 51 3497
  refine mp_run mp_k_cX9_init_ok hF mp_tabX9_ok [mp_h (.putfield 53) [42, 0]] (by decide +kernel) ?_
  refine And.intro rfl (And.intro rfl (And.intro rfl (And.intro rfl (And.intro (Nat.le_of_ble_eq_true rfl) ?_))))
  let w20_ : va_W := [(h0, .inr (9, [.ref q1, .ref q7, .ref q13, .ref q14, .ref q20, .ref q26, .ref q32, .null, .null])), (mp_ob3 q1 (b5 1) 0 (b5 2) 0 (-1) 0 0 0 0 0), (mp_arI E (b5 1) 1 1600 (fun _ => 0)), (mp_ob7 (b5 2) 0 0 0 0 0 0 (b5 3) (b5 4) (b5 5) (b5 6) (b5 7) (b5 8) (b5 9) (b5 10) (b5 11) (b5 12) (b5 13) (b5 14)), (mp_arI E (b5 3) 0 36 (fun _ => 0)), (mp_arL E (b5 4) 12 (fun _ => 0)), (mp_arI E (b5 5) 0 6 (fun _ => 0)), (mp_arI E (b5 6) 0 6 (fun _ => 0)), (mp_arI E (b5 7) 0 6 (fun _ => 0)), (mp_arI E (b5 8) 0 10 (fun _ => 0)), (mp_arI E (b5 9) 0 10 (fun _ => 0)), (mp_arI E (b5 10) 0 10 (fun _ => 0)), (mp_arI E (b5 11) 0 10 (fun _ => 0)), (mp_arI E (b5 12) 0 10 (fun _ => 0)), (mp_arI E (b5 13) 0 10 (fun _ => 0)), (mp_arI E (b5 14) 0 60 (fun _ => 0)), (mp_ob0 q7 (b11 1) 0 (b11 14) (b11 15) (b11 16) (b11 17) (b11 18) (b11 19)), (mp_ob7 (b11 1) 0 0 0 0 0 0 (b11 2) (b11 3) (b11 4) (b11 5) (b11 6) (b11 7) (b11 8) (b11 9) (b11 10) (b11 11) (b11 12) (b11 13)), (mp_arI E (b11 2) 0 36 (fun _ => 0)), (mp_arL E (b11 3) 12 (fun _ => 0)), (mp_arI E (b11 4) 0 6 (fun _ => 0)), (mp_arI E (b11 5) 0 6 (fun _ => 0)), (mp_arI E (b11 6) 0 6 (fun _ => 0)), (mp_arI E (b11 7) 0 10 (fun _ => 0)), (mp_arI E (b11 8) 0 10 (fun _ => 0)), (mp_arI E (b11 9) 0 10 (fun _ => 0)), (mp_arI E (b11 10) 0 10 (fun _ => 0)), (mp_arI E (b11 11) 0 10 (fun _ => 0)), (mp_arI E (b11 12) 0 10 (fun _ => 0)), (mp_arI E (b11 13) 0 60 (fun _ => 0)), (mp_arI E (b11 14) 0 6 (fun _ => 0)), (mp_arI E (b11 15) 0 6 (fun _ => 0)), (mp_arI E (b11 16) 0 6 (fun _ => 0)), (mp_arL E (b11 17) 20 (fun _ => 0)), (mp_arI E (b11 18) 0 10 (fun _ => 0)), (mp_arI E (b11 19) 0 10 (fun _ => 0)), (q13, .inl (E.2.2 4, 3, .inr (.inr (.inr (.inr (fun _ => none)))))), (mp_ob1 q14 (b18 1) 0 0 (b18 2)), (mp_arI E (b18 1) 0 36 (fun _ => 0)), (mp_arI E (b18 2) 0 3 (fun _ => 0)), (mp_ob2 q20 0 0 0 0 (b24 1) (b24 2) (b24 3) (b24 4) (b24 5) 0 0), (mp_arI E (b24 1) 0 432 (fun _ => 0)), (mp_arI E (b24 2) 0 432 (fun _ => 0)), (mp_arI E (b24 3) 0 72 (fun _ => 0)), (mp_arI E (b24 4) 0 78 (fun _ => 0)), (mp_arL E (b24 5) 78 (fun _ => 0)), (mp_ob4 q26 0 0 0 (b30 1) 0 0 0 0 0 (b30 2)), (mp_arI E (b30 1) 0 11 (fun _ => 0)), (mp_arI E (b30 2) 0 132 (fun _ => 0)), (mp_ob6 q32 0 (b36 1) (b36 2)), (mp_arI E (b36 1) 0 8 (fun _ => 0)), (mp_arI E (b36 2) 0 100 g37)]
  show mp_W E X 1 78 [(0, .ref h0)] [] w20_ 51 3497
  refine mp_run mp_k_cX9_init_ok hF mp_tabX9_ok [mp_i (.aload_n 0)] (by decide +kernel) ?_
  show mp_W E X 1 79 [(0, .ref h0)] [.ref h0] w20_ 51 3497
  refine mp_new hF (mp_lnX9_57) ⟨(Nat.le_of_ble_eq_true rfl), (Nat.le_of_ble_eq_true rfl)⟩ (by first | exact mp_fd_ok mp_k_cX9_init_ok (by decide +kernel) | decide +kernel) (fun q40 => ?_)
  let w21_ : va_W := [(h0, .inr (9, [.ref q1, .ref q7, .ref q13, .ref q14, .ref q20, .ref q26, .ref q32, .null, .null])), (mp_ob3 q1 (b5 1) 0 (b5 2) 0 (-1) 0 0 0 0 0), (mp_arI E (b5 1) 1 1600 (fun _ => 0)), (mp_ob7 (b5 2) 0 0 0 0 0 0 (b5 3) (b5 4) (b5 5) (b5 6) (b5 7) (b5 8) (b5 9) (b5 10) (b5 11) (b5 12) (b5 13) (b5 14)), (mp_arI E (b5 3) 0 36 (fun _ => 0)), (mp_arL E (b5 4) 12 (fun _ => 0)), (mp_arI E (b5 5) 0 6 (fun _ => 0)), (mp_arI E (b5 6) 0 6 (fun _ => 0)), (mp_arI E (b5 7) 0 6 (fun _ => 0)), (mp_arI E (b5 8) 0 10 (fun _ => 0)), (mp_arI E (b5 9) 0 10 (fun _ => 0)), (mp_arI E (b5 10) 0 10 (fun _ => 0)), (mp_arI E (b5 11) 0 10 (fun _ => 0)), (mp_arI E (b5 12) 0 10 (fun _ => 0)), (mp_arI E (b5 13) 0 10 (fun _ => 0)), (mp_arI E (b5 14) 0 60 (fun _ => 0)), (mp_ob0 q7 (b11 1) 0 (b11 14) (b11 15) (b11 16) (b11 17) (b11 18) (b11 19)), (mp_ob7 (b11 1) 0 0 0 0 0 0 (b11 2) (b11 3) (b11 4) (b11 5) (b11 6) (b11 7) (b11 8) (b11 9) (b11 10) (b11 11) (b11 12) (b11 13)), (mp_arI E (b11 2) 0 36 (fun _ => 0)), (mp_arL E (b11 3) 12 (fun _ => 0)), (mp_arI E (b11 4) 0 6 (fun _ => 0)), (mp_arI E (b11 5) 0 6 (fun _ => 0)), (mp_arI E (b11 6) 0 6 (fun _ => 0)), (mp_arI E (b11 7) 0 10 (fun _ => 0)), (mp_arI E (b11 8) 0 10 (fun _ => 0)), (mp_arI E (b11 9) 0 10 (fun _ => 0)), (mp_arI E (b11 10) 0 10 (fun _ => 0)), (mp_arI E (b11 11) 0 10 (fun _ => 0)), (mp_arI E (b11 12) 0 10 (fun _ => 0)), (mp_arI E (b11 13) 0 60 (fun _ => 0)), (mp_arI E (b11 14) 0 6 (fun _ => 0)), (mp_arI E (b11 15) 0 6 (fun _ => 0)), (mp_arI E (b11 16) 0 6 (fun _ => 0)), (mp_arL E (b11 17) 20 (fun _ => 0)), (mp_arI E (b11 18) 0 10 (fun _ => 0)), (mp_arI E (b11 19) 0 10 (fun _ => 0)), (q13, .inl (E.2.2 4, 3, .inr (.inr (.inr (.inr (fun _ => none)))))), (mp_ob1 q14 (b18 1) 0 0 (b18 2)), (mp_arI E (b18 1) 0 36 (fun _ => 0)), (mp_arI E (b18 2) 0 3 (fun _ => 0)), (mp_ob2 q20 0 0 0 0 (b24 1) (b24 2) (b24 3) (b24 4) (b24 5) 0 0), (mp_arI E (b24 1) 0 432 (fun _ => 0)), (mp_arI E (b24 2) 0 432 (fun _ => 0)), (mp_arI E (b24 3) 0 72 (fun _ => 0)), (mp_arI E (b24 4) 0 78 (fun _ => 0)), (mp_arL E (b24 5) 78 (fun _ => 0)), (mp_ob4 q26 0 0 0 (b30 1) 0 0 0 0 0 (b30 2)), (mp_arI E (b30 1) 0 11 (fun _ => 0)), (mp_arI E (b30 2) 0 132 (fun _ => 0)), (mp_ob6 q32 0 (b36 1) (b36 2)), (mp_arI E (b36 1) 0 8 (fun _ => 0)), (mp_arI E (b36 2) 0 100 g37), (q40, .inr (8, [.null, .int 0, .int 0]))]
  show mp_W E X 1 82 [(0, .ref h0)] [.ref q40, .ref h0] w21_ 52 3500
  refine mp_run mp_k_cX9_init_ok hF mp_tabX9_ok [mp_i .dup] (by decide +kernel) ?_
  refine And.intro rfl ?_
  show mp_W E X 1 83 [(0, .ref h0)] [.ref q40, .ref q40, .ref h0] w21_ 52 3500
  refine mp_callIN hF (As := []) (rest := [.ref q40, .ref h0]) (wr := w20_) (k_Years E q40) rfl (mp_gm (j := 2112) (by decide +kernel)) mp_lkX9_59 [52] [0, 1, 2, 3, 4, 5, 6, 7, 8, 9, 10, 11, 12, 13, 14, 15, 16, 17, 18, 19, 20, 21, 22, 23, 24, 25, 26, 27, 28, 29, 30, 31, 32, 33, 34, 35, 36, 37, 38, 39, 40, 41, 42, 43, 44, 45, 46, 47, 48, 49, 50, 51] rfl rfl rfl rfl rfl ⟨(Nat.le_of_ble_eq_true rfl), (Nat.le_of_ble_eq_true rfl), (Nat.le_of_ble_eq_true rfl), (Nat.le_of_ble_eq_true rfl)⟩ (Nat.le_of_ble_eq_true rfl) (by first | exact mp_fd_ok mp_k_cX9_init_ok (by decide +kernel) | decide +kernel) (fun v41 w42 h43 => ?_)
  obtain ⟨rfl, b44, h45, rfl⟩ := h43
  clear h45
  let w22_ : va_W := [(h0, .inr (9, [.ref q1, .ref q7, .ref q13, .ref q14, .ref q20, .ref q26, .ref q32, .null, .null])), (mp_ob3 q1 (b5 1) 0 (b5 2) 0 (-1) 0 0 0 0 0), (mp_arI E (b5 1) 1 1600 (fun _ => 0)), (mp_ob7 (b5 2) 0 0 0 0 0 0 (b5 3) (b5 4) (b5 5) (b5 6) (b5 7) (b5 8) (b5 9) (b5 10) (b5 11) (b5 12) (b5 13) (b5 14)), (mp_arI E (b5 3) 0 36 (fun _ => 0)), (mp_arL E (b5 4) 12 (fun _ => 0)), (mp_arI E (b5 5) 0 6 (fun _ => 0)), (mp_arI E (b5 6) 0 6 (fun _ => 0)), (mp_arI E (b5 7) 0 6 (fun _ => 0)), (mp_arI E (b5 8) 0 10 (fun _ => 0)), (mp_arI E (b5 9) 0 10 (fun _ => 0)), (mp_arI E (b5 10) 0 10 (fun _ => 0)), (mp_arI E (b5 11) 0 10 (fun _ => 0)), (mp_arI E (b5 12) 0 10 (fun _ => 0)), (mp_arI E (b5 13) 0 10 (fun _ => 0)), (mp_arI E (b5 14) 0 60 (fun _ => 0)), (mp_ob0 q7 (b11 1) 0 (b11 14) (b11 15) (b11 16) (b11 17) (b11 18) (b11 19)), (mp_ob7 (b11 1) 0 0 0 0 0 0 (b11 2) (b11 3) (b11 4) (b11 5) (b11 6) (b11 7) (b11 8) (b11 9) (b11 10) (b11 11) (b11 12) (b11 13)), (mp_arI E (b11 2) 0 36 (fun _ => 0)), (mp_arL E (b11 3) 12 (fun _ => 0)), (mp_arI E (b11 4) 0 6 (fun _ => 0)), (mp_arI E (b11 5) 0 6 (fun _ => 0)), (mp_arI E (b11 6) 0 6 (fun _ => 0)), (mp_arI E (b11 7) 0 10 (fun _ => 0)), (mp_arI E (b11 8) 0 10 (fun _ => 0)), (mp_arI E (b11 9) 0 10 (fun _ => 0)), (mp_arI E (b11 10) 0 10 (fun _ => 0)), (mp_arI E (b11 11) 0 10 (fun _ => 0)), (mp_arI E (b11 12) 0 10 (fun _ => 0)), (mp_arI E (b11 13) 0 60 (fun _ => 0)), (mp_arI E (b11 14) 0 6 (fun _ => 0)), (mp_arI E (b11 15) 0 6 (fun _ => 0)), (mp_arI E (b11 16) 0 6 (fun _ => 0)), (mp_arL E (b11 17) 20 (fun _ => 0)), (mp_arI E (b11 18) 0 10 (fun _ => 0)), (mp_arI E (b11 19) 0 10 (fun _ => 0)), (q13, .inl (E.2.2 4, 3, .inr (.inr (.inr (.inr (fun _ => none)))))), (mp_ob1 q14 (b18 1) 0 0 (b18 2)), (mp_arI E (b18 1) 0 36 (fun _ => 0)), (mp_arI E (b18 2) 0 3 (fun _ => 0)), (mp_ob2 q20 0 0 0 0 (b24 1) (b24 2) (b24 3) (b24 4) (b24 5) 0 0), (mp_arI E (b24 1) 0 432 (fun _ => 0)), (mp_arI E (b24 2) 0 432 (fun _ => 0)), (mp_arI E (b24 3) 0 72 (fun _ => 0)), (mp_arI E (b24 4) 0 78 (fun _ => 0)), (mp_arL E (b24 5) 78 (fun _ => 0)), (mp_ob4 q26 0 0 0 (b30 1) 0 0 0 0 0 (b30 2)), (mp_arI E (b30 1) 0 11 (fun _ => 0)), (mp_arI E (b30 2) 0 132 (fun _ => 0)), (mp_ob6 q32 0 (b36 1) (b36 2)), (mp_arI E (b36 1) 0 8 (fun _ => 0)), (mp_arI E (b36 2) 0 100 g37), (mp_ob8 q40 (b44 1) 0 0), (mp_arI E (b44 1) 0 10 (fun _ => 0))]
  show mp_W E X 1 86 [(0, .ref h0)] [.ref q40, .ref h0] w22_ 53 3510
  refine mp_run mp_k_cX9_init_ok hF mp_tabX9_ok [mp_h (.putfield 60) [43, 0]] (by decide +kernel) ?_
  refine And.intro rfl (And.intro rfl (And.intro rfl (And.intro rfl (And.intro (Nat.le_of_ble_eq_true rfl) ?_))))
  let w23_ : va_W := [(h0, .inr (9, [.ref q1, .ref q7, .ref q13, .ref q14, .ref q20, .ref q26, .ref q32, .ref q40, .null])), (mp_ob3 q1 (b5 1) 0 (b5 2) 0 (-1) 0 0 0 0 0), (mp_arI E (b5 1) 1 1600 (fun _ => 0)), (mp_ob7 (b5 2) 0 0 0 0 0 0 (b5 3) (b5 4) (b5 5) (b5 6) (b5 7) (b5 8) (b5 9) (b5 10) (b5 11) (b5 12) (b5 13) (b5 14)), (mp_arI E (b5 3) 0 36 (fun _ => 0)), (mp_arL E (b5 4) 12 (fun _ => 0)), (mp_arI E (b5 5) 0 6 (fun _ => 0)), (mp_arI E (b5 6) 0 6 (fun _ => 0)), (mp_arI E (b5 7) 0 6 (fun _ => 0)), (mp_arI E (b5 8) 0 10 (fun _ => 0)), (mp_arI E (b5 9) 0 10 (fun _ => 0)), (mp_arI E (b5 10) 0 10 (fun _ => 0)), (mp_arI E (b5 11) 0 10 (fun _ => 0)), (mp_arI E (b5 12) 0 10 (fun _ => 0)), (mp_arI E (b5 13) 0 10 (fun _ => 0)), (mp_arI E (b5 14) 0 60 (fun _ => 0)), (mp_ob0 q7 (b11 1) 0 (b11 14) (b11 15) (b11 16) (b11 17) (b11 18) (b11 19)), (mp_ob7 (b11 1) 0 0 0 0 0 0 (b11 2) (b11 3) (b11 4) (b11 5) (b11 6) (b11 7) (b11 8) (b11 9) (b11 10) (b11 11) (b11 12) (b11 13)), (mp_arI E (b11 2) 0 36 (fun _ => 0)), (mp_arL E (b11 3) 12 (fun _ => 0)), (mp_arI E (b11 4) 0 6 (fun _ => 0)), (mp_arI E (b11 5) 0 6 (fun _ => 0)), (mp_arI E (b11 6) 0 6 (fun _ => 0)), (mp_arI E (b11 7) 0 10 (fun _ => 0)), (mp_arI E (b11 8) 0 10 (fun _ => 0)), (mp_arI E (b11 9) 0 10 (fun _ => 0)), (mp_arI E (b11 10) 0 10 (fun _ => 0)), (mp_arI E (b11 11) 0 10 (fun _ => 0)), (mp_arI E (b11 12) 0 10 (fun _ => 0)), (mp_arI E (b11 13) 0 60 (fun _ => 0)), (mp_arI E (b11 14) 0 6 (fun _ => 0)), (mp_arI E (b11 15) 0 6 (fun _ => 0)), (mp_arI E (b11 16) 0 6 (fun _ => 0)), (mp_arL E (b11 17) 20 (fun _ => 0)), (mp_arI E (b11 18) 0 10 (fun _ => 0)), (mp_arI E (b11 19) 0 10 (fun _ => 0)), (q13, .inl (E.2.2 4, 3, .inr (.inr (.inr (.inr (fun _ => none)))))), (mp_ob1 q14 (b18 1) 0 0 (b18 2)), (mp_arI E (b18 1) 0 36 (fun _ => 0)), (mp_arI E (b18 2) 0 3 (fun _ => 0)), (mp_ob2 q20 0 0 0 0 (b24 1) (b24 2) (b24 3) (b24 4) (b24 5) 0 0), (mp_arI E (b24 1) 0 432 (fun _ => 0)), (mp_arI E (b24 2) 0 432 (fun _ => 0)), (mp_arI E (b24 3) 0 72 (fun _ => 0)), (mp_arI E (b24 4) 0 78 (fun _ => 0)), (mp_arL E (b24 5) 78 (fun _ => 0)), (mp_ob4 q26 0 0 0 (b30 1) 0 0 0 0 0 (b30 2)), (mp_arI E (b30 1) 0 11 (fun _ => 0)), (mp_arI E (b30 2) 0 132 (fun _ => 0)), (mp_ob6 q32 0 (b36 1) (b36 2)), (mp_arI E (b36 1) 0 8 (fun _ => 0)), (mp_arI E (b36 2) 0 100 g37), (mp_ob8 q40 (b44 1) 0 0), (mp_arI E (b44 1) 0 10 (fun _ => 0))]
  show mp_W E X 1 89 [(0, .ref h0)] [] w23_ 53 3510
  refine mp_run mp_k_cX9_init_ok hF mp_tabX9_ok [mp_i (.aload_n 0)] (by decide +kernel) ?_
  show mp_W E X 1 90 [(0, .ref h0)] [.ref h0] w23_ 53 3510
  refine mp_new hF (mp_lnX9_64) ⟨(Nat.le_of_ble_eq_true rfl), (Nat.le_of_ble_eq_true rfl)⟩ (by first | exact mp_fd_ok mp_k_cX9_init_ok (by decide +kernel) | decide +kernel) (fun q46 => ?_)
  let w24_ : va_W := [(h0, .inr (9, [.ref q1, .ref q7, .ref q13, .ref q14, .ref q20, .ref q26, .ref q32, .ref q40, .null])), (mp_ob3 q1 (b5 1) 0 (b5 2) 0 (-1) 0 0 0 0 0), (mp_arI E (b5 1) 1 1600 (fun _ => 0)), (mp_ob7 (b5 2) 0 0 0 0 0 0 (b5 3) (b5 4) (b5 5) (b5 6) (b5 7) (b5 8) (b5 9) (b5 10) (b5 11) (b5 12) (b5 13) (b5 14)), (mp_arI E (b5 3) 0 36 (fun _ => 0)), (mp_arL E (b5 4) 12 (fun _ => 0)), (mp_arI E (b5 5) 0 6 (fun _ => 0)), (mp_arI E (b5 6) 0 6 (fun _ => 0)), (mp_arI E (b5 7) 0 6 (fun _ => 0)), (mp_arI E (b5 8) 0 10 (fun _ => 0)), (mp_arI E (b5 9) 0 10 (fun _ => 0)), (mp_arI E (b5 10) 0 10 (fun _ => 0)), (mp_arI E (b5 11) 0 10 (fun _ => 0)), (mp_arI E (b5 12) 0 10 (fun _ => 0)), (mp_arI E (b5 13) 0 10 (fun _ => 0)), (mp_arI E (b5 14) 0 60 (fun _ => 0)), (mp_ob0 q7 (b11 1) 0 (b11 14) (b11 15) (b11 16) (b11 17) (b11 18) (b11 19)), (mp_ob7 (b11 1) 0 0 0 0 0 0 (b11 2) (b11 3) (b11 4) (b11 5) (b11 6) (b11 7) (b11 8) (b11 9) (b11 10) (b11 11) (b11 12) (b11 13)), (mp_arI E (b11 2) 0 36 (fun _ => 0)), (mp_arL E (b11 3) 12 (fun _ => 0)), (mp_arI E (b11 4) 0 6 (fun _ => 0)), (mp_arI E (b11 5) 0 6 (fun _ => 0)), (mp_arI E (b11 6) 0 6 (fun _ => 0)), (mp_arI E (b11 7) 0 10 (fun _ => 0)), (mp_arI E (b11 8) 0 10 (fun _ => 0)), (mp_arI E (b11 9) 0 10 (fun _ => 0)), (mp_arI E (b11 10) 0 10 (fun _ => 0)), (mp_arI E (b11 11) 0 10 (fun _ => 0)), (mp_arI E (b11 12) 0 10 (fun _ => 0)), (mp_arI E (b11 13) 0 60 (fun _ => 0)), (mp_arI E (b11 14) 0 6 (fun _ => 0)), (mp_arI E (b11 15) 0 6 (fun _ => 0)), (mp_arI E (b11 16) 0 6 (fun _ => 0)), (mp_arL E (b11 17) 20 (fun _ => 0)), (mp_arI E (b11 18) 0 10 (fun _ => 0)), (mp_arI E (b11 19) 0 10 (fun _ => 0)), (q13, .inl (E.2.2 4, 3, .inr (.inr (.inr (.inr (fun _ => none)))))), (mp_ob1 q14 (b18 1) 0 0 (b18 2)), (mp_arI E (b18 1) 0 36 (fun _ => 0)), (mp_arI E (b18 2) 0 3 (fun _ => 0)), (mp_ob2 q20 0 0 0 0 (b24 1) (b24 2) (b24 3) (b24 4) (b24 5) 0 0), (mp_arI E (b24 1) 0 432 (fun _ => 0)), (mp_arI E (b24 2) 0 432 (fun _ => 0)), (mp_arI E (b24 3) 0 72 (fun _ => 0)), (mp_arI E (b24 4) 0 78 (fun _ => 0)), (mp_arL E (b24 5) 78 (fun _ => 0)), (mp_ob4 q26 0 0 0 (b30 1) 0 0 0 0 0 (b30 2)), (mp_arI E (b30 1) 0 11 (fun _ => 0)), (mp_arI E (b30 2) 0 132 (fun _ => 0)), (mp_ob6 q32 0 (b36 1) (b36 2)), (mp_arI E (b36 1) 0 8 (fun _ => 0)), (mp_arI E (b36 2) 0 100 g37), (mp_ob8 q40 (b44 1) 0 0), (mp_arI E (b44 1) 0 10 (fun _ => 0)), (q46, .inr (5, [.null, .null, .null]))]
  show mp_W E X 1 93 [(0, .ref h0)] [.ref q46, .ref h0] w24_ 54 3513
  refine mp_run mp_k_cX9_init_ok hF mp_tabX9_ok [mp_i .dup] (by decide +kernel) ?_
  refine And.intro rfl ?_
  show mp_W E X 1 94 [(0, .ref h0)] [.ref q46, .ref q46, .ref h0] w24_ 54 3513
  refine mp_callI hF (As := []) (rest := [.ref q46, .ref h0]) (wr := w23_) (k_Slots E q46) mp_lkX9_66 [54] [0, 1, 2, 3, 4, 5, 6, 7, 8, 9, 10, 11, 12, 13, 14, 15, 16, 17, 18, 19, 20, 21, 22, 23, 24, 25, 26, 27, 28, 29, 30, 31, 32, 33, 34, 35, 36, 37, 38, 39, 40, 41, 42, 43, 44, 45, 46, 47, 48, 49, 50, 51, 52, 53] rfl rfl rfl rfl rfl ⟨(Nat.le_of_ble_eq_true rfl), (Nat.le_of_ble_eq_true rfl), (Nat.le_of_ble_eq_true rfl), (Nat.le_of_ble_eq_true rfl)⟩ (Nat.le_of_ble_eq_true rfl) (by first | exact mp_fd_ok mp_k_cX9_init_ok (by decide +kernel) | decide +kernel) (fun v47 w48 h49 => ?_)
  obtain ⟨rfl, b50, g51, h53, f52, rfl⟩ := h49
  clear h53
  let w25_ : va_W := [(h0, .inr (9, [.ref q1, .ref q7, .ref q13, .ref q14, .ref q20, .ref q26, .ref q32, .ref q40, .null])), (mp_ob3 q1 (b5 1) 0 (b5 2) 0 (-1) 0 0 0 0 0), (mp_arI E (b5 1) 1 1600 (fun _ => 0)), (mp_ob7 (b5 2) 0 0 0 0 0 0 (b5 3) (b5 4) (b5 5) (b5 6) (b5 7) (b5 8) (b5 9) (b5 10) (b5 11) (b5 12) (b5 13) (b5 14)), (mp_arI E (b5 3) 0 36 (fun _ => 0)), (mp_arL E (b5 4) 12 (fun _ => 0)), (mp_arI E (b5 5) 0 6 (fun _ => 0)), (mp_arI E (b5 6) 0 6 (fun _ => 0)), (mp_arI E (b5 7) 0 6 (fun _ => 0)), (mp_arI E (b5 8) 0 10 (fun _ => 0)), (mp_arI E (b5 9) 0 10 (fun _ => 0)), (mp_arI E (b5 10) 0 10 (fun _ => 0)), (mp_arI E (b5 11) 0 10 (fun _ => 0)), (mp_arI E (b5 12) 0 10 (fun _ => 0)), (mp_arI E (b5 13) 0 10 (fun _ => 0)), (mp_arI E (b5 14) 0 60 (fun _ => 0)), (mp_ob0 q7 (b11 1) 0 (b11 14) (b11 15) (b11 16) (b11 17) (b11 18) (b11 19)), (mp_ob7 (b11 1) 0 0 0 0 0 0 (b11 2) (b11 3) (b11 4) (b11 5) (b11 6) (b11 7) (b11 8) (b11 9) (b11 10) (b11 11) (b11 12) (b11 13)), (mp_arI E (b11 2) 0 36 (fun _ => 0)), (mp_arL E (b11 3) 12 (fun _ => 0)), (mp_arI E (b11 4) 0 6 (fun _ => 0)), (mp_arI E (b11 5) 0 6 (fun _ => 0)), (mp_arI E (b11 6) 0 6 (fun _ => 0)), (mp_arI E (b11 7) 0 10 (fun _ => 0)), (mp_arI E (b11 8) 0 10 (fun _ => 0)), (mp_arI E (b11 9) 0 10 (fun _ => 0)), (mp_arI E (b11 10) 0 10 (fun _ => 0)), (mp_arI E (b11 11) 0 10 (fun _ => 0)), (mp_arI E (b11 12) 0 10 (fun _ => 0)), (mp_arI E (b11 13) 0 60 (fun _ => 0)), (mp_arI E (b11 14) 0 6 (fun _ => 0)), (mp_arI E (b11 15) 0 6 (fun _ => 0)), (mp_arI E (b11 16) 0 6 (fun _ => 0)), (mp_arL E (b11 17) 20 (fun _ => 0)), (mp_arI E (b11 18) 0 10 (fun _ => 0)), (mp_arI E (b11 19) 0 10 (fun _ => 0)), (q13, .inl (E.2.2 4, 3, .inr (.inr (.inr (.inr (fun _ => none)))))), (mp_ob1 q14 (b18 1) 0 0 (b18 2)), (mp_arI E (b18 1) 0 36 (fun _ => 0)), (mp_arI E (b18 2) 0 3 (fun _ => 0)), (mp_ob2 q20 0 0 0 0 (b24 1) (b24 2) (b24 3) (b24 4) (b24 5) 0 0), (mp_arI E (b24 1) 0 432 (fun _ => 0)), (mp_arI E (b24 2) 0 432 (fun _ => 0)), (mp_arI E (b24 3) 0 72 (fun _ => 0)), (mp_arI E (b24 4) 0 78 (fun _ => 0)), (mp_arL E (b24 5) 78 (fun _ => 0)), (mp_ob4 q26 0 0 0 (b30 1) 0 0 0 0 0 (b30 2)), (mp_arI E (b30 1) 0 11 (fun _ => 0)), (mp_arI E (b30 2) 0 132 (fun _ => 0)), (mp_ob6 q32 0 (b36 1) (b36 2)), (mp_arI E (b36 1) 0 8 (fun _ => 0)), (mp_arI E (b36 2) 0 100 g37), (mp_ob8 q40 (b44 1) 0 0), (mp_arI E (b44 1) 0 10 (fun _ => 0)), (mp_ob5 q46 (b50 1) (b50 2) (b50 3)), (mp_arL E (b50 1) 240 (fun _ => 0)), (mp_arI E (b50 2) 0 4 (fun _ => 0)), (mp_arI E (b50 3) 0 4 g51)]
  show mp_W E X 1 97 [(0, .ref h0)] [.ref q46, .ref h0] w25_ 57 3761
  refine mp_run mp_k_cX9_init_ok hF mp_tabX9_ok [mp_h (.putfield 67) [44, 0]] (by decide +kernel) ?_
  refine And.intro rfl (And.intro rfl (And.intro rfl (And.intro rfl (And.intro (Nat.le_of_ble_eq_true rfl) ?_))))
  let w26_ : va_W := [(mp_ob9 h0 q1 q7 q13 q14 q20 q26 q32 q40 q46), (mp_ob3 q1 (b5 1) 0 (b5 2) 0 (-1) 0 0 0 0 0), (mp_arI E (b5 1) 1 1600 (fun _ => 0)), (mp_ob7 (b5 2) 0 0 0 0 0 0 (b5 3) (b5 4) (b5 5) (b5 6) (b5 7) (b5 8) (b5 9) (b5 10) (b5 11) (b5 12) (b5 13) (b5 14)), (mp_arI E (b5 3) 0 36 (fun _ => 0)), (mp_arL E (b5 4) 12 (fun _ => 0)), (mp_arI E (b5 5) 0 6 (fun _ => 0)), (mp_arI E (b5 6) 0 6 (fun _ => 0)), (mp_arI E (b5 7) 0 6 (fun _ => 0)), (mp_arI E (b5 8) 0 10 (fun _ => 0)), (mp_arI E (b5 9) 0 10 (fun _ => 0)), (mp_arI E (b5 10) 0 10 (fun _ => 0)), (mp_arI E (b5 11) 0 10 (fun _ => 0)), (mp_arI E (b5 12) 0 10 (fun _ => 0)), (mp_arI E (b5 13) 0 10 (fun _ => 0)), (mp_arI E (b5 14) 0 60 (fun _ => 0)), (mp_ob0 q7 (b11 1) 0 (b11 14) (b11 15) (b11 16) (b11 17) (b11 18) (b11 19)), (mp_ob7 (b11 1) 0 0 0 0 0 0 (b11 2) (b11 3) (b11 4) (b11 5) (b11 6) (b11 7) (b11 8) (b11 9) (b11 10) (b11 11) (b11 12) (b11 13)), (mp_arI E (b11 2) 0 36 (fun _ => 0)), (mp_arL E (b11 3) 12 (fun _ => 0)), (mp_arI E (b11 4) 0 6 (fun _ => 0)), (mp_arI E (b11 5) 0 6 (fun _ => 0)), (mp_arI E (b11 6) 0 6 (fun _ => 0)), (mp_arI E (b11 7) 0 10 (fun _ => 0)), (mp_arI E (b11 8) 0 10 (fun _ => 0)), (mp_arI E (b11 9) 0 10 (fun _ => 0)), (mp_arI E (b11 10) 0 10 (fun _ => 0)), (mp_arI E (b11 11) 0 10 (fun _ => 0)), (mp_arI E (b11 12) 0 10 (fun _ => 0)), (mp_arI E (b11 13) 0 60 (fun _ => 0)), (mp_arI E (b11 14) 0 6 (fun _ => 0)), (mp_arI E (b11 15) 0 6 (fun _ => 0)), (mp_arI E (b11 16) 0 6 (fun _ => 0)), (mp_arL E (b11 17) 20 (fun _ => 0)), (mp_arI E (b11 18) 0 10 (fun _ => 0)), (mp_arI E (b11 19) 0 10 (fun _ => 0)), (q13, .inl (E.2.2 4, 3, .inr (.inr (.inr (.inr (fun _ => none)))))), (mp_ob1 q14 (b18 1) 0 0 (b18 2)), (mp_arI E (b18 1) 0 36 (fun _ => 0)), (mp_arI E (b18 2) 0 3 (fun _ => 0)), (mp_ob2 q20 0 0 0 0 (b24 1) (b24 2) (b24 3) (b24 4) (b24 5) 0 0), (mp_arI E (b24 1) 0 432 (fun _ => 0)), (mp_arI E (b24 2) 0 432 (fun _ => 0)), (mp_arI E (b24 3) 0 72 (fun _ => 0)), (mp_arI E (b24 4) 0 78 (fun _ => 0)), (mp_arL E (b24 5) 78 (fun _ => 0)), (mp_ob4 q26 0 0 0 (b30 1) 0 0 0 0 0 (b30 2)), (mp_arI E (b30 1) 0 11 (fun _ => 0)), (mp_arI E (b30 2) 0 132 (fun _ => 0)), (mp_ob6 q32 0 (b36 1) (b36 2)), (mp_arI E (b36 1) 0 8 (fun _ => 0)), (mp_arI E (b36 2) 0 100 g37), (mp_ob8 q40 (b44 1) 0 0), (mp_arI E (b44 1) 0 10 (fun _ => 0)), (mp_ob5 q46 (b50 1) (b50 2) (b50 3)), (mp_arL E (b50 1) 240 (fun _ => 0)), (mp_arI E (b50 2) 0 4 (fun _ => 0)), (mp_arI E (b50 3) 0 4 g51)]
  show mp_W E X 1 100 [(0, .ref h0)] [] w26_ 57 3761
  exact mp_vret hF hQ rfl (Nat.le_of_ble_eq_true rfl) (Nat.le_of_ble_eq_true rfl) [0, 1, 2, 3, 4, 5, 6, 7, 8, 9, 10, 11, 12, 13, 14, 15, 16, 17, 18, 19, 20, 21, 22, 23, 24, 25, 26, 27, 28, 29, 30, 31, 32, 33, 34, 35, 36, 37, 38, 39, 40, 41, 42, 43, 44, 45, 46, 47, 48, 49, 50, 51, 52, 53, 54, 55, 56, 57] (w' := w26_) rfl rfl ⟨rfl, fun k => ([h0, q1, (b5 1), (b5 2), (b5 3), (b5 4), (b5 5), (b5 6), (b5 7), (b5 8), (b5 9), (b5 10), (b5 11), (b5 12), (b5 13), (b5 14), q7, (b11 1), (b11 2), (b11 3), (b11 4), (b11 5), (b11 6), (b11 7), (b11 8), (b11 9), (b11 10), (b11 11), (b11 12), (b11 13), (b11 14), (b11 15), (b11 16), (b11 17), (b11 18), (b11 19), q13, q14, (b18 1), (b18 2), q20, (b24 1), (b24 2), (b24 3), (b24 4), (b24 5), q26, (b30 1), (b30 2), q32, (b36 1), (b36 2), q40, (b44 1), q46, (b50 1), (b50 2), (b50 3)] : List Nat).getD k 0, g37, g51, rfl, f38, f52, rfl⟩ (by first | exact mp_fd_ok mp_k_cX9_init_ok (by decide +kernel) | decide +kernel)

