set_option maxHeartbeats 4000000 in
set_option maxRecDepth 100000 in
theorem k_Told (E : mp_E) (h0 : Nat) : mp_Ct E yX7_init cX7_init 1 none 1 12 186 12 [.ref h0] [(h0, .inr (7, [.int 0, .int 0, .int 0, .int 0, .int 0, .int 0, .null, .null, .null, .null, .null, .null, .null, .null, .null, .null, .null, .null]))] (fun v w' => v = none ∧ ∃ b : Nat → Nat, b 0 = h0 ∧ w' = [(mp_ob7 h0 0 0 0 0 0 0 (b 1) (b 2) (b 3) (b 4) (b 5) (b 6) (b 7) (b 8) (b 9) (b 10) (b 11) (b 12)), (mp_arI E (b 1) 0 36 (fun _ => 0)), (mp_arL E (b 2) 12 (fun _ => 0)), (mp_arI E (b 3) 0 6 (fun _ => 0)), (mp_arI E (b 4) 0 6 (fun _ => 0)), (mp_arI E (b 5) 0 6 (fun _ => 0)), (mp_arI E (b 6) 0 10 (fun _ => 0)), (mp_arI E (b 7) 0 10 (fun _ => 0)), (mp_arI E (b 8) 0 10 (fun _ => 0)), (mp_arI E (b 9) 0 10 (fun _ => 0)), (mp_arI E (b 10) 0 10 (fun _ => 0)), (mp_arI E (b 11) 0 10 (fun _ => 0)), (mp_arI E (b 12) 0 60 (fun _ => 0))]) := by
  refine mp_met true (by decide) (by decide) (Nat.le_of_ble_eq_true rfl) (fun X hF hQ => ?_)
  have hF : mp_F E X (RX7, cX7_init, 1, (1, 12, 186, 12), none, true) := hF
  show mp_W E X 1 0 [(0, .ref h0)] [] [(h0, .inr (7, [.int 0, .int 0, .int 0, .int 0, .int 0, .int 0, .null, .null, .null, .null, .null, .null, .null, .null, .null, .null, .null, .null]))] 0 0
  refine mp_run mp_k_cX7_init_ok hF mp_tabX7_ok [mp_i (.aload_n 0)] (by decide +kernel) ?_
  show mp_W E X 1 1 [(0, .ref h0)] [.ref h0] [(h0, .inr (7, [.int 0, .int 0, .int 0, .int 0, .int 0, .int 0, .null, .null, .null, .null, .null, .null, .null, .null, .null, .null, .null, .null]))] 0 0
  refine mp_objInit hF (idx := 3) (mp_gm (j := 1040) (by decide +kernel)) ⟨(Nat.le_of_ble_eq_true rfl), (Nat.le_of_ble_eq_true rfl)⟩ (by first | exact mp_fd_ok mp_k_cX7_init_ok (by decide +kernel) | decide +kernel) ?_
  show mp_W E X 1 4 [(0, .ref h0)] [] [(h0, .inr (7, [.int 0, .int 0, .int 0, .int 0, .int 0, .int 0, .null, .null, .null, .null, .null, .null, .null, .null, .null, .null, .null, .null]))] 0 0
  refine mp_run mp_k_cX7_init_ok hF mp_tabX7_ok [mp_i (.aload_n 0), mp_c (.bipush 36) 36, mp_h (.newarray .int) [36], mp_h (.putfield 9) [6, 0]] (by decide +kernel) ?_
  refine And.intro (by decide) (And.intro (Nat.le_of_ble_eq_true rfl) (And.intro (Nat.le_of_ble_eq_true rfl) (And.intro (by decide) ?_)))
  intro q1
  refine And.intro rfl (And.intro rfl (And.intro rfl (And.intro rfl (And.intro (Nat.le_of_ble_eq_true rfl) ?_))))
  let w1_ : va_W := [(h0, .inr (7, [.int 0, .int 0, .int 0, .int 0, .int 0, .int 0, .ref q1, .null, .null, .null, .null, .null, .null, .null, .null, .null, .null, .null])), (mp_arI E q1 0 36 (fun _ => 0))]
  show mp_W E X 1 12 [(0, .ref h0)] [] w1_ 1 36
  refine mp_run mp_k_cX7_init_ok hF mp_tabX7_ok [mp_i (.aload_n 0), mp_c (.bipush 12) 12, mp_h (.newarray .long) [12], mp_h (.putfield 15) [7, 0]] (by decide +kernel) ?_
  refine And.intro (by decide) (And.intro (Nat.le_of_ble_eq_true rfl) (And.intro (Nat.le_of_ble_eq_true rfl) (And.intro (by decide) ?_)))
  intro q2
  refine And.intro rfl (And.intro rfl (And.intro rfl (And.intro rfl (And.intro (Nat.le_of_ble_eq_true rfl) ?_))))
  let w2_ : va_W := [(h0, .inr (7, [.int 0, .int 0, .int 0, .int 0, .int 0, .int 0, .ref q1, .ref q2, .null, .null, .null, .null, .null, .null, .null, .null, .null, .null])), (mp_arI E q1 0 36 (fun _ => 0)), (mp_arL E q2 12 (fun _ => 0))]
  show mp_W E X 1 20 [(0, .ref h0)] [] w2_ 2 48
  refine mp_run mp_k_cX7_init_ok hF mp_tabX7_ok [mp_i (.aload_n 0), mp_c (.bipush 6) 6, mp_h (.newarray .int) [6], mp_h (.putfield 19) [8, 0]] (by decide +kernel) ?_
  refine And.intro (by decide) (And.intro (Nat.le_of_ble_eq_true rfl) (And.intro (Nat.le_of_ble_eq_true rfl) (And.intro (by decide) ?_)))
  intro q3
  refine And.intro rfl (And.intro rfl (And.intro rfl (And.intro rfl (And.intro (Nat.le_of_ble_eq_true rfl) ?_))))
  let w3_ : va_W := [(h0, .inr (7, [.int 0, .int 0, .int 0, .int 0, .int 0, .int 0, .ref q1, .ref q2, .ref q3, .null, .null, .null, .null, .null, .null, .null, .null, .null])), (mp_arI E q1 0 36 (fun _ => 0)), (mp_arL E q2 12 (fun _ => 0)), (mp_arI E q3 0 6 (fun _ => 0))]
  show mp_W E X 1 28 [(0, .ref h0)] [] w3_ 3 54
  refine mp_run mp_k_cX7_init_ok hF mp_tabX7_ok [mp_i (.aload_n 0), mp_c (.bipush 6) 6, mp_h (.newarray .int) [6], mp_h (.putfield 22) [9, 0]] (by decide +kernel) ?_
  refine And.intro (by decide) (And.intro (Nat.le_of_ble_eq_true rfl) (And.intro (Nat.le_of_ble_eq_true rfl) (And.intro (by decide) ?_)))
  intro q4
  refine And.intro rfl (And.intro rfl (And.intro rfl (And.intro rfl (And.intro (Nat.le_of_ble_eq_true rfl) ?_))))
  let w4_ : va_W := [(h0, .inr (7, [.int 0, .int 0, .int 0, .int 0, .int 0, .int 0, .ref q1, .ref q2, .ref q3, .ref q4, .null, .null, .null, .null, .null, .null, .null, .null])), (mp_arI E q1 0 36 (fun _ => 0)), (mp_arL E q2 12 (fun _ => 0)), (mp_arI E q3 0 6 (fun _ => 0)), (mp_arI E q4 0 6 (fun _ => 0))]
  show mp_W E X 1 36 [(0, .ref h0)] [] w4_ 4 60
  refine mp_run mp_k_cX7_init_ok hF mp_tabX7_ok [mp_i (.aload_n 0), mp_c (.bipush 6) 6, mp_h (.newarray .int) [6], mp_h (.putfield 25) [10, 0]] (by decide +kernel) ?_
  refine And.intro (by decide) (And.intro (Nat.le_of_ble_eq_true rfl) (And.intro (Nat.le_of_ble_eq_true rfl) (And.intro (by decide) ?_)))
  intro q5
  refine And.intro rfl (And.intro rfl (And.intro rfl (And.intro rfl (And.intro (Nat.le_of_ble_eq_true rfl) ?_))))
  let w5_ : va_W := [(h0, .inr (7, [.int 0, .int 0, .int 0, .int 0, .int 0, .int 0, .ref q1, .ref q2, .ref q3, .ref q4, .ref q5, .null, .null, .null, .null, .null, .null, .null])), (mp_arI E q1 0 36 (fun _ => 0)), (mp_arL E q2 12 (fun _ => 0)), (mp_arI E q3 0 6 (fun _ => 0)), (mp_arI E q4 0 6 (fun _ => 0)), (mp_arI E q5 0 6 (fun _ => 0))]
  show mp_W E X 1 44 [(0, .ref h0)] [] w5_ 5 66
  refine mp_run mp_k_cX7_init_ok hF mp_tabX7_ok [mp_i (.aload_n 0), mp_c (.bipush 10) 10, mp_h (.newarray .int) [10], mp_h (.putfield 28) [11, 0]] (by decide +kernel) ?_
  refine And.intro (by decide) (And.intro (Nat.le_of_ble_eq_true rfl) (And.intro (Nat.le_of_ble_eq_true rfl) (And.intro (by decide) ?_)))
  intro q6
  refine And.intro rfl (And.intro rfl (And.intro rfl (And.intro rfl (And.intro (Nat.le_of_ble_eq_true rfl) ?_))))
  let w6_ : va_W := [(h0, .inr (7, [.int 0, .int 0, .int 0, .int 0, .int 0, .int 0, .ref q1, .ref q2, .ref q3, .ref q4, .ref q5, .ref q6, .null, .null, .null, .null, .null, .null])), (mp_arI E q1 0 36 (fun _ => 0)), (mp_arL E q2 12 (fun _ => 0)), (mp_arI E q3 0 6 (fun _ => 0)), (mp_arI E q4 0 6 (fun _ => 0)), (mp_arI E q5 0 6 (fun _ => 0)), (mp_arI E q6 0 10 (fun _ => 0))]
  show mp_W E X 1 52 [(0, .ref h0)] [] w6_ 6 76
  refine mp_run mp_k_cX7_init_ok hF mp_tabX7_ok [mp_i (.aload_n 0), mp_c (.bipush 10) 10, mp_h (.newarray .int) [10], mp_h (.putfield 31) [12, 0]] (by decide +kernel) ?_
  refine And.intro (by decide) (And.intro (Nat.le_of_ble_eq_true rfl) (And.intro (Nat.le_of_ble_eq_true rfl) (And.intro (by decide) ?_)))
  intro q7
  refine And.intro rfl (And.intro rfl (And.intro rfl (And.intro rfl (And.intro (Nat.le_of_ble_eq_true rfl) ?_))))
  let w7_ : va_W := [(h0, .inr (7, [.int 0, .int 0, .int 0, .int 0, .int 0, .int 0, .ref q1, .ref q2, .ref q3, .ref q4, .ref q5, .ref q6, .ref q7, .null, .null, .null, .null, .null])), (mp_arI E q1 0 36 (fun _ => 0)), (mp_arL E q2 12 (fun _ => 0)), (mp_arI E q3 0 6 (fun _ => 0)), (mp_arI E q4 0 6 (fun _ => 0)), (mp_arI E q5 0 6 (fun _ => 0)), (mp_arI E q6 0 10 (fun _ => 0)), (mp_arI E q7 0 10 (fun _ => 0))]
  show mp_W E X 1 60 [(0, .ref h0)] [] w7_ 7 86
  refine mp_run mp_k_cX7_init_ok hF mp_tabX7_ok [mp_i (.aload_n 0), mp_c (.bipush 10) 10, mp_h (.newarray .int) [10], mp_h (.putfield 34) [13, 0]] (by decide +kernel) ?_
  refine And.intro (by decide) (And.intro (Nat.le_of_ble_eq_true rfl) (And.intro (Nat.le_of_ble_eq_true rfl) (And.intro (by decide) ?_)))
  intro q8
  refine And.intro rfl (And.intro rfl (And.intro rfl (And.intro rfl (And.intro (Nat.le_of_ble_eq_true rfl) ?_))))
  let w8_ : va_W := [(h0, .inr (7, [.int 0, .int 0, .int 0, .int 0, .int 0, .int 0, .ref q1, .ref q2, .ref q3, .ref q4, .ref q5, .ref q6, .ref q7, .ref q8, .null, .null, .null, .null])), (mp_arI E q1 0 36 (fun _ => 0)), (mp_arL E q2 12 (fun _ => 0)), (mp_arI E q3 0 6 (fun _ => 0)), (mp_arI E q4 0 6 (fun _ => 0)), (mp_arI E q5 0 6 (fun _ => 0)), (mp_arI E q6 0 10 (fun _ => 0)), (mp_arI E q7 0 10 (fun _ => 0)), (mp_arI E q8 0 10 (fun _ => 0))]
  show mp_W E X 1 68 [(0, .ref h0)] [] w8_ 8 96
  refine mp_run mp_k_cX7_init_ok hF mp_tabX7_ok [mp_i (.aload_n 0), mp_c (.bipush 10) 10, mp_h (.newarray .int) [10], mp_h (.putfield 37) [14, 0]] (by decide +kernel) ?_
  refine And.intro (by decide) (And.intro (Nat.le_of_ble_eq_true rfl) (And.intro (Nat.le_of_ble_eq_true rfl) (And.intro (by decide) ?_)))
  intro q9
  refine And.intro rfl (And.intro rfl (And.intro rfl (And.intro rfl (And.intro (Nat.le_of_ble_eq_true rfl) ?_))))
  let w9_ : va_W := [(h0, .inr (7, [.int 0, .int 0, .int 0, .int 0, .int 0, .int 0, .ref q1, .ref q2, .ref q3, .ref q4, .ref q5, .ref q6, .ref q7, .ref q8, .ref q9, .null, .null, .null])), (mp_arI E q1 0 36 (fun _ => 0)), (mp_arL E q2 12 (fun _ => 0)), (mp_arI E q3 0 6 (fun _ => 0)), (mp_arI E q4 0 6 (fun _ => 0)), (mp_arI E q5 0 6 (fun _ => 0)), (mp_arI E q6 0 10 (fun _ => 0)), (mp_arI E q7 0 10 (fun _ => 0)), (mp_arI E q8 0 10 (fun _ => 0)), (mp_arI E q9 0 10 (fun _ => 0))]
  show mp_W E X 1 76 [(0, .ref h0)] [] w9_ 9 106
  refine mp_run mp_k_cX7_init_ok hF mp_tabX7_ok [mp_i (.aload_n 0), mp_c (.bipush 10) 10, mp_h (.newarray .int) [10], mp_h (.putfield 40) [15, 0]] (by decide +kernel) ?_
  refine And.intro (by decide) (And.intro (Nat.le_of_ble_eq_true rfl) (And.intro (Nat.le_of_ble_eq_true rfl) (And.intro (by decide) ?_)))
  intro q10
  refine And.intro rfl (And.intro rfl (And.intro rfl (And.intro rfl (And.intro (Nat.le_of_ble_eq_true rfl) ?_))))
  let w10_ : va_W := [(h0, .inr (7, [.int 0, .int 0, .int 0, .int 0, .int 0, .int 0, .ref q1, .ref q2, .ref q3, .ref q4, .ref q5, .ref q6, .ref q7, .ref q8, .ref q9, .ref q10, .null, .null])), (mp_arI E q1 0 36 (fun _ => 0)), (mp_arL E q2 12 (fun _ => 0)), (mp_arI E q3 0 6 (fun _ => 0)), (mp_arI E q4 0 6 (fun _ => 0)), (mp_arI E q5 0 6 (fun _ => 0)), (mp_arI E q6 0 10 (fun _ => 0)), (mp_arI E q7 0 10 (fun _ => 0)), (mp_arI E q8 0 10 (fun _ => 0)), (mp_arI E q9 0 10 (fun _ => 0)), (mp_arI E q10 0 10 (fun _ => 0))]
  show mp_W E X 1 84 [(0, .ref h0)] [] w10_ 10 116
  refine mp_run mp_k_cX7_init_ok hF mp_tabX7_ok [mp_i (.aload_n 0), mp_c (.bipush 10) 10, mp_h (.newarray .int) [10], mp_h (.putfield 43) [16, 0]] (by decide +kernel) ?_
  refine And.intro (by decide) (And.intro (Nat.le_of_ble_eq_true rfl) (And.intro (Nat.le_of_ble_eq_true rfl) (And.intro (by decide) ?_)))
  intro q11
  refine And.intro rfl (And.intro rfl (And.intro rfl (And.intro rfl (And.intro (Nat.le_of_ble_eq_true rfl) ?_))))
  let w11_ : va_W := [(h0, .inr (7, [.int 0, .int 0, .int 0, .int 0, .int 0, .int 0, .ref q1, .ref q2, .ref q3, .ref q4, .ref q5, .ref q6, .ref q7, .ref q8, .ref q9, .ref q10, .ref q11, .null])), (mp_arI E q1 0 36 (fun _ => 0)), (mp_arL E q2 12 (fun _ => 0)), (mp_arI E q3 0 6 (fun _ => 0)), (mp_arI E q4 0 6 (fun _ => 0)), (mp_arI E q5 0 6 (fun _ => 0)), (mp_arI E q6 0 10 (fun _ => 0)), (mp_arI E q7 0 10 (fun _ => 0)), (mp_arI E q8 0 10 (fun _ => 0)), (mp_arI E q9 0 10 (fun _ => 0)), (mp_arI E q10 0 10 (fun _ => 0)), (mp_arI E q11 0 10 (fun _ => 0))]
  show mp_W E X 1 92 [(0, .ref h0)] [] w11_ 11 126
  refine mp_run mp_k_cX7_init_ok hF mp_tabX7_ok [mp_i (.aload_n 0), mp_c (.bipush 60) 60, mp_h (.newarray .int) [60], mp_h (.putfield 46) [17, 0]] (by decide +kernel) ?_
  refine And.intro (by decide) (And.intro (Nat.le_of_ble_eq_true rfl) (And.intro (Nat.le_of_ble_eq_true rfl) (And.intro (by decide) ?_)))
  intro q12
  refine And.intro rfl (And.intro rfl (And.intro rfl (And.intro rfl (And.intro (Nat.le_of_ble_eq_true rfl) ?_))))
  let w12_ : va_W := [(mp_ob7 h0 0 0 0 0 0 0 q1 q2 q3 q4 q5 q6 q7 q8 q9 q10 q11 q12), (mp_arI E q1 0 36 (fun _ => 0)), (mp_arL E q2 12 (fun _ => 0)), (mp_arI E q3 0 6 (fun _ => 0)), (mp_arI E q4 0 6 (fun _ => 0)), (mp_arI E q5 0 6 (fun _ => 0)), (mp_arI E q6 0 10 (fun _ => 0)), (mp_arI E q7 0 10 (fun _ => 0)), (mp_arI E q8 0 10 (fun _ => 0)), (mp_arI E q9 0 10 (fun _ => 0)), (mp_arI E q10 0 10 (fun _ => 0)), (mp_arI E q11 0 10 (fun _ => 0)), (mp_arI E q12 0 60 (fun _ => 0))]
  show mp_W E X 1 100 [(0, .ref h0)] [] w12_ 12 186
  exact mp_vret hF hQ rfl (Nat.le_of_ble_eq_true rfl) (Nat.le_of_ble_eq_true rfl) [0, 1, 2, 3, 4, 5, 6, 7, 8, 9, 10, 11, 12] (w' := w12_) rfl rfl ⟨rfl, fun k => ([h0, q1, q2, q3, q4, q5, q6, q7, q8, q9, q10, q11, q12] : List Nat).getD k 0, rfl, rfl⟩ (by first | exact mp_fd_ok mp_k_cX7_init_ok (by decide +kernel) | decide +kernel)

set_option maxHeartbeats 4000000 in
set_option maxRecDepth 100000 in
theorem k_Ledger (E : mp_E) (h0 : Nat) : mp_Ct E yX1_init cX1_init 1 none 1 2 39 12 [.ref h0] [(h0, .inr (1, [.null, .int 0, .int 0, .null]))] (fun v w' => v = none ∧ ∃ b : Nat → Nat, b 0 = h0 ∧ w' = [(mp_ob1 h0 (b 1) 0 0 (b 2)), (mp_arI E (b 1) 0 36 (fun _ => 0)), (mp_arI E (b 2) 0 3 (fun _ => 0))]) := by
  refine mp_met true (by decide) (by decide) (Nat.le_of_ble_eq_true rfl) (fun X hF hQ => ?_)
  have hF : mp_F E X (RX1, cX1_init, 1, (1, 2, 39, 12), none, true) := hF
  show mp_W E X 1 0 [(0, .ref h0)] [] [(h0, .inr (1, [.null, .int 0, .int 0, .null]))] 0 0
  refine mp_run mp_k_cX1_init_ok hF mp_tabX1_ok [mp_i (.aload_n 0)] (by decide +kernel) ?_
  show mp_W E X 1 1 [(0, .ref h0)] [.ref h0] [(h0, .inr (1, [.null, .int 0, .int 0, .null]))] 0 0
  refine mp_objInit hF (idx := 3) (mp_gm (j := 1234) (by decide +kernel)) ⟨(Nat.le_of_ble_eq_true rfl), (Nat.le_of_ble_eq_true rfl)⟩ (by first | exact mp_fd_ok mp_k_cX1_init_ok (by decide +kernel) | decide +kernel) ?_
  show mp_W E X 1 4 [(0, .ref h0)] [] [(h0, .inr (1, [.null, .int 0, .int 0, .null]))] 0 0
  refine mp_run mp_k_cX1_init_ok hF mp_tabX1_ok [mp_i (.aload_n 0), mp_c (.bipush 36) 36, mp_h (.newarray .int) [36], mp_h (.putfield 9) [5, 0]] (by decide +kernel) ?_
  refine And.intro (by decide) (And.intro (Nat.le_of_ble_eq_true rfl) (And.intro (Nat.le_of_ble_eq_true rfl) (And.intro (by decide) ?_)))
  intro q1
  refine And.intro rfl (And.intro rfl (And.intro rfl (And.intro rfl (And.intro (Nat.le_of_ble_eq_true rfl) ?_))))
  show mp_W E X 1 12 [(0, .ref h0)] [] [(h0, .inr (1, [.ref q1, .int 0, .int 0, .null])), (mp_arI E q1 0 36 (fun _ => 0))] 1 36
  refine mp_run mp_k_cX1_init_ok hF mp_tabX1_ok [mp_i (.aload_n 0), mp_c (.iconst 3) 3, mp_h (.newarray .int) [3], mp_h (.putfield 15) [8, 0]] (by decide +kernel) ?_
  refine And.intro (by decide) (And.intro (Nat.le_of_ble_eq_true rfl) (And.intro (Nat.le_of_ble_eq_true rfl) (And.intro (by decide) ?_)))
  intro q2
  refine And.intro rfl (And.intro rfl (And.intro rfl (And.intro rfl (And.intro (Nat.le_of_ble_eq_true rfl) ?_))))
  show mp_W E X 1 19 [(0, .ref h0)] [] [(mp_ob1 h0 q1 0 0 q2), (mp_arI E q1 0 36 (fun _ => 0)), (mp_arI E q2 0 3 (fun _ => 0))] 2 39
  exact mp_vret hF hQ rfl (Nat.le_of_ble_eq_true rfl) (Nat.le_of_ble_eq_true rfl) [0, 1, 2] (w' := [(mp_ob1 h0 q1 0 0 q2), (mp_arI E q1 0 36 (fun _ => 0)), (mp_arI E q2 0 3 (fun _ => 0))]) rfl rfl ⟨rfl, fun k => ([h0, q1, q2] : List Nat).getD k 0, rfl, rfl⟩ (by first | exact mp_fd_ok mp_k_cX1_init_ok (by decide +kernel) | decide +kernel)

set_option maxHeartbeats 4000000 in
set_option maxRecDepth 100000 in
theorem k_Planner (E : mp_E) (h0 : Nat) : mp_Ct E yX2_init cX2_init 1 none 1 5 1092 12 [.ref h0] [(h0, .inr (2, [.int 0, .int 0, .int 0, .int 0, .null, .null, .null, .null, .null, .int 0, .int 0]))] (fun v w' => v = none ∧ ∃ b : Nat → Nat, b 0 = h0 ∧ w' = [(mp_ob2 h0 0 0 0 0 (b 1) (b 2) (b 3) (b 4) (b 5) 0 0), (mp_arI E (b 1) 0 432 (fun _ => 0)), (mp_arI E (b 2) 0 432 (fun _ => 0)), (mp_arI E (b 3) 0 72 (fun _ => 0)), (mp_arI E (b 4) 0 78 (fun _ => 0)), (mp_arL E (b 5) 78 (fun _ => 0))]) := by
  refine mp_met true (by decide) (by decide) (Nat.le_of_ble_eq_true rfl) (fun X hF hQ => ?_)
  have hF : mp_F E X (RX2, cX2_init, 1, (1, 5, 1092, 12), none, true) := hF
  show mp_W E X 1 0 [(0, .ref h0)] [] [(h0, .inr (2, [.int 0, .int 0, .int 0, .int 0, .null, .null, .null, .null, .null, .int 0, .int 0]))] 0 0
  refine mp_run mp_k_cX2_init_ok hF mp_tabX2_ok [mp_i (.aload_n 0)] (by decide +kernel) ?_
  show mp_W E X 1 1 [(0, .ref h0)] [.ref h0] [(h0, .inr (2, [.int 0, .int 0, .int 0, .int 0, .null, .null, .null, .null, .null, .int 0, .int 0]))] 0 0
  refine mp_objInit hF (idx := 3) (mp_gm (j := 2015) (by decide +kernel)) ⟨(Nat.le_of_ble_eq_true rfl), (Nat.le_of_ble_eq_true rfl)⟩ (by first | exact mp_fd_ok mp_k_cX2_init_ok (by decide +kernel) | decide +kernel) ?_
  show mp_W E X 1 4 [(0, .ref h0)] [] [(h0, .inr (2, [.int 0, .int 0, .int 0, .int 0, .null, .null, .null, .null, .null, .int 0, .int 0]))] 0 0
  refine mp_run mp_k_cX2_init_ok hF mp_tabX2_ok [mp_i (.aload_n 0), mp_c (.sipush 432) 432, mp_h (.newarray .int) [432], mp_h (.putfield 11) [11, 0]] (by decide +kernel) ?_
  refine And.intro (by decide) (And.intro (Nat.le_of_ble_eq_true rfl) (And.intro (Nat.le_of_ble_eq_true rfl) (And.intro (by decide) ?_)))
  intro q1
  refine And.intro rfl (And.intro rfl (And.intro rfl (And.intro rfl (And.intro (Nat.le_of_ble_eq_true rfl) ?_))))
  show mp_W E X 1 13 [(0, .ref h0)] [] [(h0, .inr (2, [.int 0, .int 0, .int 0, .int 0, .ref q1, .null, .null, .null, .null, .int 0, .int 0])), (mp_arI E q1 0 432 (fun _ => 0))] 1 432
  refine mp_run mp_k_cX2_init_ok hF mp_tabX2_ok [mp_i (.aload_n 0), mp_c (.sipush 432) 432, mp_h (.newarray .int) [432], mp_h (.putfield 15) [12, 0]] (by decide +kernel) ?_
  refine And.intro (by decide) (And.intro (Nat.le_of_ble_eq_true rfl) (And.intro (Nat.le_of_ble_eq_true rfl) (And.intro (by decide) ?_)))
  intro q2
  refine And.intro rfl (And.intro rfl (And.intro rfl (And.intro rfl (And.intro (Nat.le_of_ble_eq_true rfl) ?_))))
  let w1_ : va_W := [(h0, .inr (2, [.int 0, .int 0, .int 0, .int 0, .ref q1, .ref q2, .null, .null, .null, .int 0, .int 0])), (mp_arI E q1 0 432 (fun _ => 0)), (mp_arI E q2 0 432 (fun _ => 0))]
  show mp_W E X 1 22 [(0, .ref h0)] [] w1_ 2 864
  refine mp_run mp_k_cX2_init_ok hF mp_tabX2_ok [mp_i (.aload_n 0), mp_c (.bipush 72) 72, mp_h (.newarray .int) [72], mp_h (.putfield 18) [13, 0]] (by decide +kernel) ?_
  refine And.intro (by decide) (And.intro (Nat.le_of_ble_eq_true rfl) (And.intro (Nat.le_of_ble_eq_true rfl) (And.intro (by decide) ?_)))
  intro q3
  refine And.intro rfl (And.intro rfl (And.intro rfl (And.intro rfl (And.intro (Nat.le_of_ble_eq_true rfl) ?_))))
  let w2_ : va_W := [(h0, .inr (2, [.int 0, .int 0, .int 0, .int 0, .ref q1, .ref q2, .ref q3, .null, .null, .int 0, .int 0])), (mp_arI E q1 0 432 (fun _ => 0)), (mp_arI E q2 0 432 (fun _ => 0)), (mp_arI E q3 0 72 (fun _ => 0))]
  show mp_W E X 1 30 [(0, .ref h0)] [] w2_ 3 936
  refine mp_run mp_k_cX2_init_ok hF mp_tabX2_ok [mp_i (.aload_n 0), mp_c (.bipush 78) 78, mp_h (.newarray .int) [78], mp_h (.putfield 21) [14, 0]] (by decide +kernel) ?_
  refine And.intro (by decide) (And.intro (Nat.le_of_ble_eq_true rfl) (And.intro (Nat.le_of_ble_eq_true rfl) (And.intro (by decide) ?_)))
  intro q4
  refine And.intro rfl (And.intro rfl (And.intro rfl (And.intro rfl (And.intro (Nat.le_of_ble_eq_true rfl) ?_))))
  let w3_ : va_W := [(h0, .inr (2, [.int 0, .int 0, .int 0, .int 0, .ref q1, .ref q2, .ref q3, .ref q4, .null, .int 0, .int 0])), (mp_arI E q1 0 432 (fun _ => 0)), (mp_arI E q2 0 432 (fun _ => 0)), (mp_arI E q3 0 72 (fun _ => 0)), (mp_arI E q4 0 78 (fun _ => 0))]
  show mp_W E X 1 38 [(0, .ref h0)] [] w3_ 4 1014
  refine mp_run mp_k_cX2_init_ok hF mp_tabX2_ok [mp_i (.aload_n 0), mp_c (.bipush 78) 78, mp_h (.newarray .long) [78], mp_h (.putfield 24) [15, 0]] (by decide +kernel) ?_
  refine And.intro (by decide) (And.intro (Nat.le_of_ble_eq_true rfl) (And.intro (Nat.le_of_ble_eq_true rfl) (And.intro (by decide) ?_)))
  intro q5
  refine And.intro rfl (And.intro rfl (And.intro rfl (And.intro rfl (And.intro (Nat.le_of_ble_eq_true rfl) ?_))))
  let w4_ : va_W := [(mp_ob2 h0 0 0 0 0 q1 q2 q3 q4 q5 0 0), (mp_arI E q1 0 432 (fun _ => 0)), (mp_arI E q2 0 432 (fun _ => 0)), (mp_arI E q3 0 72 (fun _ => 0)), (mp_arI E q4 0 78 (fun _ => 0)), (mp_arL E q5 78 (fun _ => 0))]
  show mp_W E X 1 46 [(0, .ref h0)] [] w4_ 5 1092
  exact mp_vret hF hQ rfl (Nat.le_of_ble_eq_true rfl) (Nat.le_of_ble_eq_true rfl) [0, 1, 2, 3, 4, 5] (w' := w4_) rfl rfl ⟨rfl, fun k => ([h0, q1, q2, q3, q4, q5] : List Nat).getD k 0, rfl, rfl⟩ (by first | exact mp_fd_ok mp_k_cX2_init_ok (by decide +kernel) | decide +kernel)

set_option maxHeartbeats 4000000 in
set_option maxRecDepth 100000 in
theorem k_Scales (E : mp_E) (h0 : Nat) : mp_Ct E yX4_init cX4_init 1 none 1 2 143 12 [.ref h0] [(h0, .inr (4, [.int 0, .int 0, .int 0, .null, .int 0, .int 0, .int 0, .int 0, .int 0, .null]))] (fun v w' => v = none ∧ ∃ b : Nat → Nat, b 0 = h0 ∧ w' = [(mp_ob4 h0 0 0 0 (b 1) 0 0 0 0 0 (b 2)), (mp_arI E (b 1) 0 11 (fun _ => 0)), (mp_arI E (b 2) 0 132 (fun _ => 0))]) := by
  refine mp_met true (by decide) (by decide) (Nat.le_of_ble_eq_true rfl) (fun X hF hQ => ?_)
  have hF : mp_F E X (RX4, cX4_init, 1, (1, 2, 143, 12), none, true) := hF
  show mp_W E X 1 0 [(0, .ref h0)] [] [(h0, .inr (4, [.int 0, .int 0, .int 0, .null, .int 0, .int 0, .int 0, .int 0, .int 0, .null]))] 0 0
  refine mp_run mp_k_cX4_init_ok hF mp_tabX4_ok [mp_i (.aload_n 0)] (by decide +kernel) ?_
  show mp_W E X 1 1 [(0, .ref h0)] [.ref h0] [(h0, .inr (4, [.int 0, .int 0, .int 0, .null, .int 0, .int 0, .int 0, .int 0, .int 0, .null]))] 0 0
  refine mp_objInit hF (idx := 3) (mp_gm (j := 2057) (by decide +kernel)) ⟨(Nat.le_of_ble_eq_true rfl), (Nat.le_of_ble_eq_true rfl)⟩ (by first | exact mp_fd_ok mp_k_cX4_init_ok (by decide +kernel) | decide +kernel) ?_
  show mp_W E X 1 4 [(0, .ref h0)] [] [(h0, .inr (4, [.int 0, .int 0, .int 0, .null, .int 0, .int 0, .int 0, .int 0, .int 0, .null]))] 0 0
  refine mp_run mp_k_cX4_init_ok hF mp_tabX4_ok [mp_i (.aload_n 0), mp_c (.bipush 11) 11, mp_h (.newarray .int) [11], mp_h (.putfield 11) [6, 0]] (by decide +kernel) ?_
  refine And.intro (by decide) (And.intro (Nat.le_of_ble_eq_true rfl) (And.intro (Nat.le_of_ble_eq_true rfl) (And.intro (by decide) ?_)))
  intro q1
  refine And.intro rfl (And.intro rfl (And.intro rfl (And.intro rfl (And.intro (Nat.le_of_ble_eq_true rfl) ?_))))
  show mp_W E X 1 12 [(0, .ref h0)] [] [(h0, .inr (4, [.int 0, .int 0, .int 0, .ref q1, .int 0, .int 0, .int 0, .int 0, .int 0, .null])), (mp_arI E q1 0 11 (fun _ => 0))] 1 11
  refine mp_run mp_k_cX4_init_ok hF mp_tabX4_ok [mp_i (.aload_n 0), mp_c (.sipush 132) 132, mp_h (.newarray .int) [132], mp_h (.putfield 15) [12, 0]] (by decide +kernel) ?_
  refine And.intro (by decide) (And.intro (Nat.le_of_ble_eq_true rfl) (And.intro (Nat.le_of_ble_eq_true rfl) (And.intro (by decide) ?_)))
  intro q2
  refine And.intro rfl (And.intro rfl (And.intro rfl (And.intro rfl (And.intro (Nat.le_of_ble_eq_true rfl) ?_))))
  let w1_ : va_W := [(mp_ob4 h0 0 0 0 q1 0 0 0 0 0 q2), (mp_arI E q1 0 11 (fun _ => 0)), (mp_arI E q2 0 132 (fun _ => 0))]
  show mp_W E X 1 21 [(0, .ref h0)] [] w1_ 2 143
  exact mp_vret hF hQ rfl (Nat.le_of_ble_eq_true rfl) (Nat.le_of_ble_eq_true rfl) [0, 1, 2] (w' := w1_) rfl rfl ⟨rfl, fun k => ([h0, q1, q2] : List Nat).getD k 0, rfl, rfl⟩ (by first | exact mp_fd_ok mp_k_cX4_init_ok (by decide +kernel) | decide +kernel)

set_option maxHeartbeats 4000000 in
set_option maxRecDepth 100000 in
theorem k_Years (E : mp_E) (h0 : Nat) : mp_Ct E yX8_init cX8_init 1 none 1 1 10 12 [.ref h0] [(h0, .inr (8, [.null, .int 0, .int 0]))] (fun v w' => v = none ∧ ∃ b : Nat → Nat, b 0 = h0 ∧ w' = [(mp_ob8 h0 (b 1) 0 0), (mp_arI E (b 1) 0 10 (fun _ => 0))]) := by
  refine mp_met true (by decide) (by decide) (Nat.le_of_ble_eq_true rfl) (fun X hF hQ => ?_)
  have hF : mp_F E X (RX8, cX8_init, 1, (1, 1, 10, 12), none, true) := hF
  show mp_W E X 1 0 [(0, .ref h0)] [] [(h0, .inr (8, [.null, .int 0, .int 0]))] 0 0
  refine mp_run mp_k_cX8_init_ok hF mp_tabX8_ok [mp_i (.aload_n 0)] (by decide +kernel) ?_
  show mp_W E X 1 1 [(0, .ref h0)] [.ref h0] [(h0, .inr (8, [.null, .int 0, .int 0]))] 0 0
  refine mp_objInit hF (idx := 3) (mp_gm (j := 2114) (by decide +kernel)) ⟨(Nat.le_of_ble_eq_true rfl), (Nat.le_of_ble_eq_true rfl)⟩ (by first | exact mp_fd_ok mp_k_cX8_init_ok (by decide +kernel) | decide +kernel) ?_
  show mp_W E X 1 4 [(0, .ref h0)] [] [(h0, .inr (8, [.null, .int 0, .int 0]))] 0 0
  refine mp_run mp_k_cX8_init_ok hF mp_tabX8_ok [mp_i (.aload_n 0), mp_c (.bipush 10) 10, mp_h (.newarray .int) [10], mp_h (.putfield 9) [5, 0]] (by decide +kernel) ?_
  refine And.intro (by decide) (And.intro (Nat.le_of_ble_eq_true rfl) (And.intro (Nat.le_of_ble_eq_true rfl) (And.intro (by decide) ?_)))
  intro q1
  refine And.intro rfl (And.intro rfl (And.intro rfl (And.intro rfl (And.intro (Nat.le_of_ble_eq_true rfl) ?_))))
  show mp_W E X 1 12 [(0, .ref h0)] [] [(mp_ob8 h0 q1 0 0), (mp_arI E q1 0 10 (fun _ => 0))] 1 10
  exact mp_vret hF hQ rfl (Nat.le_of_ble_eq_true rfl) (Nat.le_of_ble_eq_true rfl) [0, 1] (w' := [(mp_ob8 h0 q1 0 0), (mp_arI E q1 0 10 (fun _ => 0))]) rfl rfl ⟨rfl, fun k => ([h0, q1] : List Nat).getD k 0, rfl, rfl⟩ (by first | exact mp_fd_ok mp_k_cX8_init_ok (by decide +kernel) | decide +kernel)

set_option maxHeartbeats 4000000 in
set_option maxRecDepth 100000 in
theorem k_Slots (E : mp_E) (h0 : Nat) : mp_Ct E yX5_init cX5_init 2 none 1 3 248 12 [.ref h0] [(h0, .inr (5, [.null, .null, .null]))] (fun v w' => v = none ∧ ∃ b : Nat → Nat, ∃ ln : Nat → Int32, b 0 = h0 ∧ (∀ j, j < 4 → ln j = -1) ∧ w' = [(mp_ob5 h0 (b 1) (b 2) (b 3)), (mp_arL E (b 1) 240 (fun _ => 0)), (mp_arI E (b 2) 0 4 (fun _ => 0)), (mp_arI E (b 3) 0 4 ln)]) := by
  refine mp_met true (by decide) (by decide) (Nat.le_of_ble_eq_true rfl) (fun X hF hQ => ?_)
  have hF : mp_F E X (RX5, cX5_init, 2, (1, 3, 248, 12), none, true) := hF
  show mp_W E X 2 0 [(0, .ref h0)] [] [(h0, .inr (5, [.null, .null, .null]))] 0 0
  refine mp_run mp_k_cX5_init_ok hF mp_tabX5_ok [mp_i (.aload_n 0)] (by decide +kernel) ?_
  show mp_W E X 2 1 [(0, .ref h0)] [.ref h0] [(h0, .inr (5, [.null, .null, .null]))] 0 0
  refine mp_objInit hF (idx := 3) (mp_gm (j := 2132) (by decide +kernel)) ⟨(Nat.le_of_ble_eq_true rfl), (Nat.le_of_ble_eq_true rfl)⟩ (by first | exact mp_fd_ok mp_k_cX5_init_ok (by decide +kernel) | decide +kernel) ?_
  show mp_W E X 2 4 [(0, .ref h0)] [] [(h0, .inr (5, [.null, .null, .null]))] 0 0
  refine mp_run mp_k_cX5_init_ok hF mp_tabX5_ok [mp_i (.aload_n 0), mp_c (.sipush 240) 240, mp_h (.newarray .long) [240], mp_h (.putfield 9) [0, 0]] (by decide +kernel) ?_
  refine And.intro (by decide) (And.intro (Nat.le_of_ble_eq_true rfl) (And.intro (Nat.le_of_ble_eq_true rfl) (And.intro (by decide) ?_)))
  intro q1
  refine And.intro rfl (And.intro rfl (And.intro rfl (And.intro rfl (And.intro (Nat.le_of_ble_eq_true rfl) ?_))))
  show mp_W E X 2 13 [(0, .ref h0)] [] [(h0, .inr (5, [.ref q1, .null, .null])), (mp_arL E q1 240 (fun _ => 0))] 1 240
  refine mp_run mp_k_cX5_init_ok hF mp_tabX5_ok [mp_i (.aload_n 0), mp_c (.iconst 4) 4, mp_h (.newarray .int) [4], mp_h (.putfield 15) [1, 0]] (by decide +kernel) ?_
  refine And.intro (by decide) (And.intro (Nat.le_of_ble_eq_true rfl) (And.intro (Nat.le_of_ble_eq_true rfl) (And.intro (by decide) ?_)))
  intro q2
  refine And.intro rfl (And.intro rfl (And.intro rfl (And.intro rfl (And.intro (Nat.le_of_ble_eq_true rfl) ?_))))
  show mp_W E X 2 20 [(0, .ref h0)] [] [(h0, .inr (5, [.ref q1, .ref q2, .null])), (mp_arL E q1 240 (fun _ => 0)), (mp_arI E q2 0 4 (fun _ => 0))] 2 244
  refine mp_run mp_k_cX5_init_ok hF mp_tabX5_ok [mp_i (.aload_n 0), mp_c (.iconst 4) 4, mp_h (.newarray .int) [4], mp_h (.putfield 19) [2, 0]] (by decide +kernel) ?_
  refine And.intro (by decide) (And.intro (Nat.le_of_ble_eq_true rfl) (And.intro (Nat.le_of_ble_eq_true rfl) (And.intro (by decide) ?_)))
  intro q3
  refine And.intro rfl (And.intro rfl (And.intro rfl (And.intro rfl (And.intro (Nat.le_of_ble_eq_true rfl) ?_))))
  let w1_ : va_W := [(mp_ob5 h0 q1 q2 q3), (mp_arL E q1 240 (fun _ => 0)), (mp_arI E q2 0 4 (fun _ => 0)), (mp_arI E q3 0 4 (fun _ => 0))]
  show mp_W E X 2 27 [(0, .ref h0)] [] w1_ 3 248
  refine mp_run mp_k_cX5_init_ok hF mp_tabX5_ok [mp_c (.iconst 0) 0, mp_i (.istore_n 1), mp_i (.iload_n 1), mp_c (.iconst 4) 4, mp_h (.if_icmp .ge 16) [47]] (by decide +kernel) ?_
  refine And.intro (fun c4 => absurd c4 (by decide)) (fun _ => ?_)
  show mp_W E X 2 34 [(1, .int 0), (0, .ref h0)] [] w1_ 3 248
  refine mp_run mp_k_cX5_init_ok hF mp_tabX5_ok [mp_i (.aload_n 0), mp_h (.getfield 19) [2, 0], mp_i (.iload_n 1), mp_c (.iconst (-1)) (-1), mp_h .iastore [3]] (by decide +kernel) ?_
  refine And.intro rfl (And.intro rfl ?_)
  refine And.intro rfl (And.intro rfl (And.intro (vp_in_iff.mpr (by decide)) ?_))
  intro g5 h6
  let w2_ : va_W := [(mp_ob5 h0 q1 q2 q3), (mp_arL E q1 240 (fun _ => 0)), (mp_arI E q2 0 4 (fun _ => 0)), (mp_arI E q3 0 4 g5)]
  show mp_W E X 2 41 [(1, .int 0), (0, .ref h0)] [] w2_ 3 248
  refine mp_run mp_k_cX5_init_ok hF mp_tabX5_ok [mp_c (.iinc 1 1) 1, mp_h (.goto (-15)) [29], mp_i (.iload_n 1), mp_c (.iconst 4) 4, mp_h (.if_icmp .ge 16) [47]] (by decide +kernel) ?_
  intro z7 h8
  obtain rfl : z7 = 1 := h8.trans (by decide)
  refine And.intro (fun c9 => absurd c9 (by decide)) (fun _ => ?_)
  show mp_W E X 2 34 [(1, .int 1), (0, .ref h0)] [] w2_ 3 248
  refine mp_run mp_k_cX5_init_ok hF mp_tabX5_ok [mp_i (.aload_n 0), mp_h (.getfield 19) [2, 0], mp_i (.iload_n 1), mp_c (.iconst (-1)) (-1), mp_h .iastore [3]] (by decide +kernel) ?_
  refine And.intro rfl (And.intro rfl ?_)
  refine And.intro rfl (And.intro rfl (And.intro (vp_in_iff.mpr (by decide)) ?_))
  intro g10 h11
  let w3_ : va_W := [(mp_ob5 h0 q1 q2 q3), (mp_arL E q1 240 (fun _ => 0)), (mp_arI E q2 0 4 (fun _ => 0)), (mp_arI E q3 0 4 g10)]
  show mp_W E X 2 41 [(1, .int 1), (0, .ref h0)] [] w3_ 3 248
  refine mp_run mp_k_cX5_init_ok hF mp_tabX5_ok [mp_c (.iinc 1 1) 1, mp_h (.goto (-15)) [29], mp_i (.iload_n 1), mp_c (.iconst 4) 4, mp_h (.if_icmp .ge 16) [47]] (by decide +kernel) ?_
  intro z12 h13
  obtain rfl : z12 = 2 := h13.trans (by decide)
  refine And.intro (fun c14 => absurd c14 (by decide)) (fun _ => ?_)
  show mp_W E X 2 34 [(1, .int 2), (0, .ref h0)] [] w3_ 3 248
  refine mp_run mp_k_cX5_init_ok hF mp_tabX5_ok [mp_i (.aload_n 0), mp_h (.getfield 19) [2, 0], mp_i (.iload_n 1), mp_c (.iconst (-1)) (-1), mp_h .iastore [3]] (by decide +kernel) ?_
  refine And.intro rfl (And.intro rfl ?_)
  refine And.intro rfl (And.intro rfl (And.intro (vp_in_iff.mpr (by decide)) ?_))
  intro g15 h16
  let w4_ : va_W := [(mp_ob5 h0 q1 q2 q3), (mp_arL E q1 240 (fun _ => 0)), (mp_arI E q2 0 4 (fun _ => 0)), (mp_arI E q3 0 4 g15)]
  show mp_W E X 2 41 [(1, .int 2), (0, .ref h0)] [] w4_ 3 248
  refine mp_run mp_k_cX5_init_ok hF mp_tabX5_ok [mp_c (.iinc 1 1) 1, mp_h (.goto (-15)) [29], mp_i (.iload_n 1), mp_c (.iconst 4) 4, mp_h (.if_icmp .ge 16) [47]] (by decide +kernel) ?_
  intro z17 h18
  obtain rfl : z17 = 3 := h18.trans (by decide)
  refine And.intro (fun c19 => absurd c19 (by decide)) (fun _ => ?_)
  show mp_W E X 2 34 [(1, .int 3), (0, .ref h0)] [] w4_ 3 248
  refine mp_run mp_k_cX5_init_ok hF mp_tabX5_ok [mp_i (.aload_n 0), mp_h (.getfield 19) [2, 0], mp_i (.iload_n 1), mp_c (.iconst (-1)) (-1), mp_h .iastore [3]] (by decide +kernel) ?_
  refine And.intro rfl (And.intro rfl ?_)
  refine And.intro rfl (And.intro rfl (And.intro (vp_in_iff.mpr (by decide)) ?_))
  intro g20 h21
  let w5_ : va_W := [(mp_ob5 h0 q1 q2 q3), (mp_arL E q1 240 (fun _ => 0)), (mp_arI E q2 0 4 (fun _ => 0)), (mp_arI E q3 0 4 g20)]
  show mp_W E X 2 41 [(1, .int 3), (0, .ref h0)] [] w5_ 3 248
  refine mp_run mp_k_cX5_init_ok hF mp_tabX5_ok [mp_c (.iinc 1 1) 1, mp_h (.goto (-15)) [29], mp_i (.iload_n 1), mp_c (.iconst 4) 4, mp_h (.if_icmp .ge 16) [47]] (by decide +kernel) ?_
  intro z22 h23
  obtain rfl : z22 = 4 := h23.trans (by decide)
  refine And.intro (fun _ => ?_) (fun c24 => absurd c24 (by decide))
  show mp_W E X 2 47 [(1, .int 4), (0, .ref h0)] [] w5_ 3 248
  exact mp_vret hF hQ rfl (Nat.le_of_ble_eq_true rfl) (Nat.le_of_ble_eq_true rfl) [0, 1, 2, 3] (w' := w5_) rfl rfl ⟨rfl, fun k => ([h0, q1, q2, q3] : List Nat).getD k 0, g20, rfl, (by intro j hj; rw [h21, h16, h11, h6]; have h9 : j = 0 ∨ j = 1 ∨ j = 2 ∨ j = 3 := (by (first | exact mp_o2171 hj | omega)); rcases h9 with rfl | rfl | rfl | rfl <;> rfl), rfl⟩ (by first | exact mp_fd_ok mp_k_cX5_init_ok (by decide +kernel) | decide +kernel)

set_option maxHeartbeats 4000000 in
set_option maxRecDepth 100000 in
theorem k_Reader (E : mp_E) (h0 : Nat) : mp_Ct E yX3_init cX3_init 1 none 2 14 1804 32 [.ref h0] [(h0, .inr (3, [.null, .int 0, .null, .int 0, .int 0, .int 0, .int 0, .int 0, .int 0, .int 0]))] (fun v w' => v = none ∧ ∃ b : Nat → Nat, b 0 = h0 ∧ w' = [(mp_ob3 h0 (b 1) 0 (b 2) 0 (-1) 0 0 0 0 0), (mp_arI E (b 1) 1 1600 (fun _ => 0)), (mp_ob7 (b 2) 0 0 0 0 0 0 (b 3) (b 4) (b 5) (b 6) (b 7) (b 8) (b 9) (b 10) (b 11) (b 12) (b 13) (b 14)), (mp_arI E (b 3) 0 36 (fun _ => 0)), (mp_arL E (b 4) 12 (fun _ => 0)), (mp_arI E (b 5) 0 6 (fun _ => 0)), (mp_arI E (b 6) 0 6 (fun _ => 0)), (mp_arI E (b 7) 0 6 (fun _ => 0)), (mp_arI E (b 8) 0 10 (fun _ => 0)), (mp_arI E (b 9) 0 10 (fun _ => 0)), (mp_arI E (b 10) 0 10 (fun _ => 0)), (mp_arI E (b 11) 0 10 (fun _ => 0)), (mp_arI E (b 12) 0 10 (fun _ => 0)), (mp_arI E (b 13) 0 10 (fun _ => 0)), (mp_arI E (b 14) 0 60 (fun _ => 0))]) := by
  refine mp_met true (by decide) (by decide) (Nat.le_of_ble_eq_true rfl) (fun X hF hQ => ?_)
  have hF : mp_F E X (RX3, cX3_init, 1, (2, 14, 1804, 32), none, true) := hF
  show mp_W E X 1 0 [(0, .ref h0)] [] [(h0, .inr (3, [.null, .int 0, .null, .int 0, .int 0, .int 0, .int 0, .int 0, .int 0, .int 0]))] 0 0
  refine mp_run mp_k_cX3_init_ok hF mp_tabX3_ok [mp_i (.aload_n 0)] (by decide +kernel) ?_
  show mp_W E X 1 1 [(0, .ref h0)] [.ref h0] [(h0, .inr (3, [.null, .int 0, .null, .int 0, .int 0, .int 0, .int 0, .int 0, .int 0, .int 0]))] 0 0
  refine mp_objInit hF (idx := 3) (mp_gm (j := 1034) (by decide +kernel)) ⟨(Nat.le_of_ble_eq_true rfl), (Nat.le_of_ble_eq_true rfl)⟩ (by first | exact mp_fd_ok mp_k_cX3_init_ok (by decide +kernel) | decide +kernel) ?_
  show mp_W E X 1 4 [(0, .ref h0)] [] [(h0, .inr (3, [.null, .int 0, .null, .int 0, .int 0, .int 0, .int 0, .int 0, .int 0, .int 0]))] 0 0
  refine mp_run mp_k_cX3_init_ok hF mp_tabX3_ok [mp_i (.aload_n 0), mp_c (.sipush 1600) 1600, mp_h (.newarray .byte) [1600], mp_h (.putfield 9) [9, 0]] (by decide +kernel) ?_
  refine And.intro (by decide) (And.intro (Nat.le_of_ble_eq_true rfl) (And.intro (Nat.le_of_ble_eq_true rfl) (And.intro (by decide) ?_)))
  intro q1
  refine And.intro rfl (And.intro rfl (And.intro rfl (And.intro rfl (And.intro (Nat.le_of_ble_eq_true rfl) ?_))))
  show mp_W E X 1 13 [(0, .ref h0)] [] [(h0, .inr (3, [.ref q1, .int 0, .null, .int 0, .int 0, .int 0, .int 0, .int 0, .int 0, .int 0])), (mp_arI E q1 1 1600 (fun _ => 0))] 1 1600
  refine mp_run mp_k_cX3_init_ok hF mp_tabX3_ok [mp_i (.aload_n 0)] (by decide +kernel) ?_
  show mp_W E X 1 14 [(0, .ref h0)] [.ref h0] [(h0, .inr (3, [.ref q1, .int 0, .null, .int 0, .int 0, .int 0, .int 0, .int 0, .int 0, .int 0])), (mp_arI E q1 1 1600 (fun _ => 0))] 1 1600
  refine mp_new hF (mp_lnX3_15) ⟨(Nat.le_of_ble_eq_true rfl), (Nat.le_of_ble_eq_true rfl)⟩ (by first | exact mp_fd_ok mp_k_cX3_init_ok (by decide +kernel) | decide +kernel) (fun q2 => ?_)
  let w1_ : va_W := [(h0, .inr (3, [.ref q1, .int 0, .null, .int 0, .int 0, .int 0, .int 0, .int 0, .int 0, .int 0])), (mp_arI E q1 1 1600 (fun _ => 0)), (q2, .inr (7, [.int 0, .int 0, .int 0, .int 0, .int 0, .int 0, .null, .null, .null, .null, .null, .null, .null, .null, .null, .null, .null, .null]))]
  show mp_W E X 1 17 [(0, .ref h0)] [.ref q2, .ref h0] w1_ 2 1618
  refine mp_run mp_k_cX3_init_ok hF mp_tabX3_ok [mp_i .dup] (by decide +kernel) ?_
  refine And.intro rfl ?_
  show mp_W E X 1 18 [(0, .ref h0)] [.ref q2, .ref q2, .ref h0] w1_ 2 1618
  refine mp_callIN hF (As := []) (rest := [.ref q2, .ref h0]) (wr := [(h0, .inr (3, [.ref q1, .int 0, .null, .int 0, .int 0, .int 0, .int 0, .int 0, .int 0, .int 0])), (mp_arI E q1 1 1600 (fun _ => 0))]) (k_Told E q2) rfl (mp_gm (j := 1038) (by decide +kernel)) mp_lkX3_17 [2] [0, 1] rfl rfl rfl rfl rfl ⟨(Nat.le_of_ble_eq_true rfl), (Nat.le_of_ble_eq_true rfl), (Nat.le_of_ble_eq_true rfl), (Nat.le_of_ble_eq_true rfl)⟩ (Nat.le_of_ble_eq_true rfl) (by first | exact mp_fd_ok mp_k_cX3_init_ok (by decide +kernel) | decide +kernel) (fun v3 w4 h5 => ?_)
  obtain ⟨rfl, b6, h7, rfl⟩ := h5
  clear h7
  let w2_ : va_W := [(h0, .inr (3, [.ref q1, .int 0, .null, .int 0, .int 0, .int 0, .int 0, .int 0, .int 0, .int 0])), (mp_arI E q1 1 1600 (fun _ => 0)), (mp_ob7 q2 0 0 0 0 0 0 (b6 1) (b6 2) (b6 3) (b6 4) (b6 5) (b6 6) (b6 7) (b6 8) (b6 9) (b6 10) (b6 11) (b6 12)), (mp_arI E (b6 1) 0 36 (fun _ => 0)), (mp_arL E (b6 2) 12 (fun _ => 0)), (mp_arI E (b6 3) 0 6 (fun _ => 0)), (mp_arI E (b6 4) 0 6 (fun _ => 0)), (mp_arI E (b6 5) 0 6 (fun _ => 0)), (mp_arI E (b6 6) 0 10 (fun _ => 0)), (mp_arI E (b6 7) 0 10 (fun _ => 0)), (mp_arI E (b6 8) 0 10 (fun _ => 0)), (mp_arI E (b6 9) 0 10 (fun _ => 0)), (mp_arI E (b6 10) 0 10 (fun _ => 0)), (mp_arI E (b6 11) 0 10 (fun _ => 0)), (mp_arI E (b6 12) 0 60 (fun _ => 0))]
  show mp_W E X 1 21 [(0, .ref h0)] [.ref q2, .ref h0] w2_ 14 1804
  refine mp_run mp_k_cX3_init_ok hF mp_tabX3_ok [mp_h (.putfield 18) [11, 0]] (by decide +kernel) ?_
  refine And.intro rfl (And.intro rfl (And.intro rfl (And.intro rfl (And.intro (Nat.le_of_ble_eq_true rfl) ?_))))
  let w3_ : va_W := [(mp_ob3 h0 q1 0 q2 0 0 0 0 0 0 0), (mp_arI E q1 1 1600 (fun _ => 0)), (mp_ob7 q2 0 0 0 0 0 0 (b6 1) (b6 2) (b6 3) (b6 4) (b6 5) (b6 6) (b6 7) (b6 8) (b6 9) (b6 10) (b6 11) (b6 12)), (mp_arI E (b6 1) 0 36 (fun _ => 0)), (mp_arL E (b6 2) 12 (fun _ => 0)), (mp_arI E (b6 3) 0 6 (fun _ => 0)), (mp_arI E (b6 4) 0 6 (fun _ => 0)), (mp_arI E (b6 5) 0 6 (fun _ => 0)), (mp_arI E (b6 6) 0 10 (fun _ => 0)), (mp_arI E (b6 7) 0 10 (fun _ => 0)), (mp_arI E (b6 8) 0 10 (fun _ => 0)), (mp_arI E (b6 9) 0 10 (fun _ => 0)), (mp_arI E (b6 10) 0 10 (fun _ => 0)), (mp_arI E (b6 11) 0 10 (fun _ => 0)), (mp_arI E (b6 12) 0 60 (fun _ => 0))]
  show mp_W E X 1 24 [(0, .ref h0)] [] w3_ 14 1804
  refine mp_run mp_k_cX3_init_ok hF mp_tabX3_ok [mp_i (.aload_n 0), mp_c (.iconst (-1)) (-1), mp_h (.putfield 22) [13, 0]] (by decide +kernel) ?_
  refine And.intro rfl (And.intro rfl (And.intro rfl (And.intro rfl (And.intro (Nat.le_of_ble_eq_true rfl) ?_))))
  let w4_ : va_W := [(mp_ob3 h0 q1 0 q2 0 (-1) 0 0 0 0 0), (mp_arI E q1 1 1600 (fun _ => 0)), (mp_ob7 q2 0 0 0 0 0 0 (b6 1) (b6 2) (b6 3) (b6 4) (b6 5) (b6 6) (b6 7) (b6 8) (b6 9) (b6 10) (b6 11) (b6 12)), (mp_arI E (b6 1) 0 36 (fun _ => 0)), (mp_arL E (b6 2) 12 (fun _ => 0)), (mp_arI E (b6 3) 0 6 (fun _ => 0)), (mp_arI E (b6 4) 0 6 (fun _ => 0)), (mp_arI E (b6 5) 0 6 (fun _ => 0)), (mp_arI E (b6 6) 0 10 (fun _ => 0)), (mp_arI E (b6 7) 0 10 (fun _ => 0)), (mp_arI E (b6 8) 0 10 (fun _ => 0)), (mp_arI E (b6 9) 0 10 (fun _ => 0)), (mp_arI E (b6 10) 0 10 (fun _ => 0)), (mp_arI E (b6 11) 0 10 (fun _ => 0)), (mp_arI E (b6 12) 0 60 (fun _ => 0))]
  show mp_W E X 1 29 [(0, .ref h0)] [] w4_ 14 1804
  exact mp_vret hF hQ rfl (Nat.le_of_ble_eq_true rfl) (Nat.le_of_ble_eq_true rfl) [0, 1, 2, 3, 4, 5, 6, 7, 8, 9, 10, 11, 12, 13, 14] (w' := w4_) rfl rfl ⟨rfl, fun k => ([h0, q1, q2, (b6 1), (b6 2), (b6 3), (b6 4), (b6 5), (b6 6), (b6 7), (b6 8), (b6 9), (b6 10), (b6 11), (b6 12)] : List Nat).getD k 0, rfl, rfl⟩ (by first | exact mp_fd_ok mp_k_cX3_init_ok (by decide +kernel) | decide +kernel)

set_option maxHeartbeats 4000000 in
set_option maxRecDepth 100000 in
theorem k_Course (E : mp_E) (h0 : Nat) : mp_Ct E yX0_init cX0_init 1 none 2 19 262 32 [.ref h0] [(h0, .inr (0, [.null, .int 0, .null, .null, .null, .null, .null, .null]))] (fun v w' => v = none ∧ ∃ b : Nat → Nat, b 0 = h0 ∧ w' = [(mp_ob0 h0 (b 1) 0 (b 14) (b 15) (b 16) (b 17) (b 18) (b 19)), (mp_ob7 (b 1) 0 0 0 0 0 0 (b 2) (b 3) (b 4) (b 5) (b 6) (b 7) (b 8) (b 9) (b 10) (b 11) (b 12) (b 13)), (mp_arI E (b 2) 0 36 (fun _ => 0)), (mp_arL E (b 3) 12 (fun _ => 0)), (mp_arI E (b 4) 0 6 (fun _ => 0)), (mp_arI E (b 5) 0 6 (fun _ => 0)), (mp_arI E (b 6) 0 6 (fun _ => 0)), (mp_arI E (b 7) 0 10 (fun _ => 0)), (mp_arI E (b 8) 0 10 (fun _ => 0)), (mp_arI E (b 9) 0 10 (fun _ => 0)), (mp_arI E (b 10) 0 10 (fun _ => 0)), (mp_arI E (b 11) 0 10 (fun _ => 0)), (mp_arI E (b 12) 0 10 (fun _ => 0)), (mp_arI E (b 13) 0 60 (fun _ => 0)), (mp_arI E (b 14) 0 6 (fun _ => 0)), (mp_arI E (b 15) 0 6 (fun _ => 0)), (mp_arI E (b 16) 0 6 (fun _ => 0)), (mp_arL E (b 17) 20 (fun _ => 0)), (mp_arI E (b 18) 0 10 (fun _ => 0)), (mp_arI E (b 19) 0 10 (fun _ => 0))]) := by
  refine mp_met true (by decide) (by decide) (Nat.le_of_ble_eq_true rfl) (fun X hF hQ => ?_)
  have hF : mp_F E X (RX0, cX0_init, 1, (2, 19, 262, 32), none, true) := hF
  show mp_W E X 1 0 [(0, .ref h0)] [] [(h0, .inr (0, [.null, .int 0, .null, .null, .null, .null, .null, .null]))] 0 0
  refine mp_run mp_k_cX0_init_ok hF mp_tabX0_ok [mp_i (.aload_n 0)] (by decide +kernel) ?_
  show mp_W E X 1 1 [(0, .ref h0)] [.ref h0] [(h0, .inr (0, [.null, .int 0, .null, .null, .null, .null, .null, .null]))] 0 0
  refine mp_objInit hF (idx := 3) (mp_gm (j := 1189) (by decide +kernel)) ⟨(Nat.le_of_ble_eq_true rfl), (Nat.le_of_ble_eq_true rfl)⟩ (by first | exact mp_fd_ok mp_k_cX0_init_ok (by decide +kernel) | decide +kernel) ?_
  show mp_W E X 1 4 [(0, .ref h0)] [] [(h0, .inr (0, [.null, .int 0, .null, .null, .null, .null, .null, .null]))] 0 0
  refine mp_run mp_k_cX0_init_ok hF mp_tabX0_ok [mp_i (.aload_n 0)] (by decide +kernel) ?_
  show mp_W E X 1 5 [(0, .ref h0)] [.ref h0] [(h0, .inr (0, [.null, .int 0, .null, .null, .null, .null, .null, .null]))] 0 0
  refine mp_new hF (mp_lnX0_9) ⟨(Nat.le_of_ble_eq_true rfl), (Nat.le_of_ble_eq_true rfl)⟩ (by first | exact mp_fd_ok mp_k_cX0_init_ok (by decide +kernel) | decide +kernel) (fun q1 => ?_)
  let w1_ : va_W := [(h0, .inr (0, [.null, .int 0, .null, .null, .null, .null, .null, .null])), (q1, .inr (7, [.int 0, .int 0, .int 0, .int 0, .int 0, .int 0, .null, .null, .null, .null, .null, .null, .null, .null, .null, .null, .null, .null]))]
  show mp_W E X 1 8 [(0, .ref h0)] [.ref q1, .ref h0] w1_ 1 18
  refine mp_run mp_k_cX0_init_ok hF mp_tabX0_ok [mp_i .dup] (by decide +kernel) ?_
  refine And.intro rfl ?_
  show mp_W E X 1 9 [(0, .ref h0)] [.ref q1, .ref q1, .ref h0] w1_ 1 18
  refine mp_callIN hF (As := []) (rest := [.ref q1, .ref h0]) (wr := [(h0, .inr (0, [.null, .int 0, .null, .null, .null, .null, .null, .null]))]) (k_Told E q1) rfl (mp_gm (j := 1038) (by decide +kernel)) mp_lkX0_11 [1] [0] rfl rfl rfl rfl rfl ⟨(Nat.le_of_ble_eq_true rfl), (Nat.le_of_ble_eq_true rfl), (Nat.le_of_ble_eq_true rfl), (Nat.le_of_ble_eq_true rfl)⟩ (Nat.le_of_ble_eq_true rfl) (by first | exact mp_fd_ok mp_k_cX0_init_ok (by decide +kernel) | decide +kernel) (fun v2 w3 h4 => ?_)
  obtain ⟨rfl, b5, h6, rfl⟩ := h4
  clear h6
  let w2_ : va_W := [(h0, .inr (0, [.null, .int 0, .null, .null, .null, .null, .null, .null])), (mp_ob7 q1 0 0 0 0 0 0 (b5 1) (b5 2) (b5 3) (b5 4) (b5 5) (b5 6) (b5 7) (b5 8) (b5 9) (b5 10) (b5 11) (b5 12)), (mp_arI E (b5 1) 0 36 (fun _ => 0)), (mp_arL E (b5 2) 12 (fun _ => 0)), (mp_arI E (b5 3) 0 6 (fun _ => 0)), (mp_arI E (b5 4) 0 6 (fun _ => 0)), (mp_arI E (b5 5) 0 6 (fun _ => 0)), (mp_arI E (b5 6) 0 10 (fun _ => 0)), (mp_arI E (b5 7) 0 10 (fun _ => 0)), (mp_arI E (b5 8) 0 10 (fun _ => 0)), (mp_arI E (b5 9) 0 10 (fun _ => 0)), (mp_arI E (b5 10) 0 10 (fun _ => 0)), (mp_arI E (b5 11) 0 10 (fun _ => 0)), (mp_arI E (b5 12) 0 60 (fun _ => 0))]
  show mp_W E X 1 12 [(0, .ref h0)] [.ref q1, .ref h0] w2_ 13 204
  refine mp_run mp_k_cX0_init_ok hF mp_tabX0_ok [mp_h (.putfield 12) [11, 0]] (by decide +kernel) ?_
  refine And.intro rfl (And.intro rfl (And.intro rfl (And.intro rfl (And.intro (Nat.le_of_ble_eq_true rfl) ?_))))
  let w3_ : va_W := [(h0, .inr (0, [.ref q1, .int 0, .null, .null, .null, .null, .null, .null])), (mp_ob7 q1 0 0 0 0 0 0 (b5 1) (b5 2) (b5 3) (b5 4) (b5 5) (b5 6) (b5 7) (b5 8) (b5 9) (b5 10) (b5 11) (b5 12)), (mp_arI E (b5 1) 0 36 (fun _ => 0)), (mp_arL E (b5 2) 12 (fun _ => 0)), (mp_arI E (b5 3) 0 6 (fun _ => 0)), (mp_arI E (b5 4) 0 6 (fun _ => 0)), (mp_arI E (b5 5) 0 6 (fun _ => 0)), (mp_arI E (b5 6) 0 10 (fun _ => 0)), (mp_arI E (b5 7) 0 10 (fun _ => 0)), (mp_arI E (b5 8) 0 10 (fun _ => 0)), (mp_arI E (b5 9) 0 10 (fun _ => 0)), (mp_arI E (b5 10) 0 10 (fun _ => 0)), (mp_arI E (b5 11) 0 10 (fun _ => 0)), (mp_arI E (b5 12) 0 60 (fun _ => 0))]
  show mp_W E X 1 15 [(0, .ref h0)] [] w3_ 13 204
  refine mp_run mp_k_cX0_init_ok hF mp_tabX0_ok [mp_i (.aload_n 0), mp_c (.bipush 6) 6, mp_h (.newarray .int) [6], mp_h (.putfield 18) [13, 0]] (by decide +kernel) ?_
  refine And.intro (by decide) (And.intro (Nat.le_of_ble_eq_true rfl) (And.intro (Nat.le_of_ble_eq_true rfl) (And.intro (by decide) ?_)))
  intro q7
  refine And.intro rfl (And.intro rfl (And.intro rfl (And.intro rfl (And.intro (Nat.le_of_ble_eq_true rfl) ?_))))
  let w4_ : va_W := [(h0, .inr (0, [.ref q1, .int 0, .ref q7, .null, .null, .null, .null, .null])), (mp_ob7 q1 0 0 0 0 0 0 (b5 1) (b5 2) (b5 3) (b5 4) (b5 5) (b5 6) (b5 7) (b5 8) (b5 9) (b5 10) (b5 11) (b5 12)), (mp_arI E (b5 1) 0 36 (fun _ => 0)), (mp_arL E (b5 2) 12 (fun _ => 0)), (mp_arI E (b5 3) 0 6 (fun _ => 0)), (mp_arI E (b5 4) 0 6 (fun _ => 0)), (mp_arI E (b5 5) 0 6 (fun _ => 0)), (mp_arI E (b5 6) 0 10 (fun _ => 0)), (mp_arI E (b5 7) 0 10 (fun _ => 0)), (mp_arI E (b5 8) 0 10 (fun _ => 0)), (mp_arI E (b5 9) 0 10 (fun _ => 0)), (mp_arI E (b5 10) 0 10 (fun _ => 0)), (mp_arI E (b5 11) 0 10 (fun _ => 0)), (mp_arI E (b5 12) 0 60 (fun _ => 0)), (mp_arI E q7 0 6 (fun _ => 0))]
  show mp_W E X 1 23 [(0, .ref h0)] [] w4_ 14 210
  refine mp_run mp_k_cX0_init_ok hF mp_tabX0_ok [mp_i (.aload_n 0), mp_c (.bipush 6) 6, mp_h (.newarray .int) [6], mp_h (.putfield 22) [14, 0]] (by decide +kernel) ?_
  refine And.intro (by decide) (And.intro (Nat.le_of_ble_eq_true rfl) (And.intro (Nat.le_of_ble_eq_true rfl) (And.intro (by decide) ?_)))
  intro q8
  refine And.intro rfl (And.intro rfl (And.intro rfl (And.intro rfl (And.intro (Nat.le_of_ble_eq_true rfl) ?_))))
  let w5_ : va_W := [(h0, .inr (0, [.ref q1, .int 0, .ref q7, .ref q8, .null, .null, .null, .null])), (mp_ob7 q1 0 0 0 0 0 0 (b5 1) (b5 2) (b5 3) (b5 4) (b5 5) (b5 6) (b5 7) (b5 8) (b5 9) (b5 10) (b5 11) (b5 12)), (mp_arI E (b5 1) 0 36 (fun _ => 0)), (mp_arL E (b5 2) 12 (fun _ => 0)), (mp_arI E (b5 3) 0 6 (fun _ => 0)), (mp_arI E (b5 4) 0 6 (fun _ => 0)), (mp_arI E (b5 5) 0 6 (fun _ => 0)), (mp_arI E (b5 6) 0 10 (fun _ => 0)), (mp_arI E (b5 7) 0 10 (fun _ => 0)), (mp_arI E (b5 8) 0 10 (fun _ => 0)), (mp_arI E (b5 9) 0 10 (fun _ => 0)), (mp_arI E (b5 10) 0 10 (fun _ => 0)), (mp_arI E (b5 11) 0 10 (fun _ => 0)), (mp_arI E (b5 12) 0 60 (fun _ => 0)), (mp_arI E q7 0 6 (fun _ => 0)), (mp_arI E q8 0 6 (fun _ => 0))]
  show mp_W E X 1 31 [(0, .ref h0)] [] w5_ 15 216
  refine mp_run mp_k_cX0_init_ok hF mp_tabX0_ok [mp_i (.aload_n 0), mp_c (.bipush 6) 6, mp_h (.newarray .int) [6], mp_h (.putfield 25) [15, 0]] (by decide +kernel) ?_
  refine And.intro (by decide) (And.intro (Nat.le_of_ble_eq_true rfl) (And.intro (Nat.le_of_ble_eq_true rfl) (And.intro (by decide) ?_)))
  intro q9
  refine And.intro rfl (And.intro rfl (And.intro rfl (And.intro rfl (And.intro (Nat.le_of_ble_eq_true rfl) ?_))))
  let w6_ : va_W := [(h0, .inr (0, [.ref q1, .int 0, .ref q7, .ref q8, .ref q9, .null, .null, .null])), (mp_ob7 q1 0 0 0 0 0 0 (b5 1) (b5 2) (b5 3) (b5 4) (b5 5) (b5 6) (b5 7) (b5 8) (b5 9) (b5 10) (b5 11) (b5 12)), (mp_arI E (b5 1) 0 36 (fun _ => 0)), (mp_arL E (b5 2) 12 (fun _ => 0)), (mp_arI E (b5 3) 0 6 (fun _ => 0)), (mp_arI E (b5 4) 0 6 (fun _ => 0)), (mp_arI E (b5 5) 0 6 (fun _ => 0)), (mp_arI E (b5 6) 0 10 (fun _ => 0)), (mp_arI E (b5 7) 0 10 (fun _ => 0)), (mp_arI E (b5 8) 0 10 (fun _ => 0)), (mp_arI E (b5 9) 0 10 (fun _ => 0)), (mp_arI E (b5 10) 0 10 (fun _ => 0)), (mp_arI E (b5 11) 0 10 (fun _ => 0)), (mp_arI E (b5 12) 0 60 (fun _ => 0)), (mp_arI E q7 0 6 (fun _ => 0)), (mp_arI E q8 0 6 (fun _ => 0)), (mp_arI E q9 0 6 (fun _ => 0))]
  show mp_W E X 1 39 [(0, .ref h0)] [] w6_ 16 222
  refine mp_run mp_k_cX0_init_ok hF mp_tabX0_ok [mp_i (.aload_n 0), mp_c (.bipush 20) 20, mp_h (.newarray .long) [20], mp_h (.putfield 28) [16, 0]] (by decide +kernel) ?_
  refine And.intro (by decide) (And.intro (Nat.le_of_ble_eq_true rfl) (And.intro (Nat.le_of_ble_eq_true rfl) (And.intro (by decide) ?_)))
  intro q10
  refine And.intro rfl (And.intro rfl (And.intro rfl (And.intro rfl (And.intro (Nat.le_of_ble_eq_true rfl) ?_))))
  let w7_ : va_W := [(h0, .inr (0, [.ref q1, .int 0, .ref q7, .ref q8, .ref q9, .ref q10, .null, .null])), (mp_ob7 q1 0 0 0 0 0 0 (b5 1) (b5 2) (b5 3) (b5 4) (b5 5) (b5 6) (b5 7) (b5 8) (b5 9) (b5 10) (b5 11) (b5 12)), (mp_arI E (b5 1) 0 36 (fun _ => 0)), (mp_arL E (b5 2) 12 (fun _ => 0)), (mp_arI E (b5 3) 0 6 (fun _ => 0)), (mp_arI E (b5 4) 0 6 (fun _ => 0)), (mp_arI E (b5 5) 0 6 (fun _ => 0)), (mp_arI E (b5 6) 0 10 (fun _ => 0)), (mp_arI E (b5 7) 0 10 (fun _ => 0)), (mp_arI E (b5 8) 0 10 (fun _ => 0)), (mp_arI E (b5 9) 0 10 (fun _ => 0)), (mp_arI E (b5 10) 0 10 (fun _ => 0)), (mp_arI E (b5 11) 0 10 (fun _ => 0)), (mp_arI E (b5 12) 0 60 (fun _ => 0)), (mp_arI E q7 0 6 (fun _ => 0)), (mp_arI E q8 0 6 (fun _ => 0)), (mp_arI E q9 0 6 (fun _ => 0)), (mp_arL E q10 20 (fun _ => 0))]
  show mp_W E X 1 47 [(0, .ref h0)] [] w7_ 17 242
  refine mp_run mp_k_cX0_init_ok hF mp_tabX0_ok [mp_i (.aload_n 0), mp_c (.bipush 10) 10, mp_h (.newarray .int) [10], mp_h (.putfield 32) [17, 0]] (by decide +kernel) ?_
  refine And.intro (by decide) (And.intro (Nat.le_of_ble_eq_true rfl) (And.intro (Nat.le_of_ble_eq_true rfl) (And.intro (by decide) ?_)))
  intro q11
  refine And.intro rfl (And.intro rfl (And.intro rfl (And.intro rfl (And.intro (Nat.le_of_ble_eq_true rfl) ?_))))
  let w8_ : va_W := [(h0, .inr (0, [.ref q1, .int 0, .ref q7, .ref q8, .ref q9, .ref q10, .ref q11, .null])), (mp_ob7 q1 0 0 0 0 0 0 (b5 1) (b5 2) (b5 3) (b5 4) (b5 5) (b5 6) (b5 7) (b5 8) (b5 9) (b5 10) (b5 11) (b5 12)), (mp_arI E (b5 1) 0 36 (fun _ => 0)), (mp_arL E (b5 2) 12 (fun _ => 0)), (mp_arI E (b5 3) 0 6 (fun _ => 0)), (mp_arI E (b5 4) 0 6 (fun _ => 0)), (mp_arI E (b5 5) 0 6 (fun _ => 0)), (mp_arI E (b5 6) 0 10 (fun _ => 0)), (mp_arI E (b5 7) 0 10 (fun _ => 0)), (mp_arI E (b5 8) 0 10 (fun _ => 0)), (mp_arI E (b5 9) 0 10 (fun _ => 0)), (mp_arI E (b5 10) 0 10 (fun _ => 0)), (mp_arI E (b5 11) 0 10 (fun _ => 0)), (mp_arI E (b5 12) 0 60 (fun _ => 0)), (mp_arI E q7 0 6 (fun _ => 0)), (mp_arI E q8 0 6 (fun _ => 0)), (mp_arI E q9 0 6 (fun _ => 0)), (mp_arL E q10 20 (fun _ => 0)), (mp_arI E q11 0 10 (fun _ => 0))]
  show mp_W E X 1 55 [(0, .ref h0)] [] w8_ 18 252
  refine mp_run mp_k_cX0_init_ok hF mp_tabX0_ok [mp_i (.aload_n 0), mp_c (.bipush 10) 10, mp_h (.newarray .int) [10], mp_h (.putfield 35) [18, 0]] (by decide +kernel) ?_
  refine And.intro (by decide) (And.intro (Nat.le_of_ble_eq_true rfl) (And.intro (Nat.le_of_ble_eq_true rfl) (And.intro (by decide) ?_)))
  intro q12
  refine And.intro rfl (And.intro rfl (And.intro rfl (And.intro rfl (And.intro (Nat.le_of_ble_eq_true rfl) ?_))))
  let w9_ : va_W := [(mp_ob0 h0 q1 0 q7 q8 q9 q10 q11 q12), (mp_ob7 q1 0 0 0 0 0 0 (b5 1) (b5 2) (b5 3) (b5 4) (b5 5) (b5 6) (b5 7) (b5 8) (b5 9) (b5 10) (b5 11) (b5 12)), (mp_arI E (b5 1) 0 36 (fun _ => 0)), (mp_arL E (b5 2) 12 (fun _ => 0)), (mp_arI E (b5 3) 0 6 (fun _ => 0)), (mp_arI E (b5 4) 0 6 (fun _ => 0)), (mp_arI E (b5 5) 0 6 (fun _ => 0)), (mp_arI E (b5 6) 0 10 (fun _ => 0)), (mp_arI E (b5 7) 0 10 (fun _ => 0)), (mp_arI E (b5 8) 0 10 (fun _ => 0)), (mp_arI E (b5 9) 0 10 (fun _ => 0)), (mp_arI E (b5 10) 0 10 (fun _ => 0)), (mp_arI E (b5 11) 0 10 (fun _ => 0)), (mp_arI E (b5 12) 0 60 (fun _ => 0)), (mp_arI E q7 0 6 (fun _ => 0)), (mp_arI E q8 0 6 (fun _ => 0)), (mp_arI E q9 0 6 (fun _ => 0)), (mp_arL E q10 20 (fun _ => 0)), (mp_arI E q11 0 10 (fun _ => 0)), (mp_arI E q12 0 10 (fun _ => 0))]
  show mp_W E X 1 63 [(0, .ref h0)] [] w9_ 19 262
  exact mp_vret hF hQ rfl (Nat.le_of_ble_eq_true rfl) (Nat.le_of_ble_eq_true rfl) [0, 1, 2, 3, 4, 5, 6, 7, 8, 9, 10, 11, 12, 13, 14, 15, 16, 17, 18, 19] (w' := w9_) rfl rfl ⟨rfl, fun k => ([h0, q1, (b5 1), (b5 2), (b5 3), (b5 4), (b5 5), (b5 6), (b5 7), (b5 8), (b5 9), (b5 10), (b5 11), (b5 12), q7, q8, q9, q10, q11, q12] : List Nat).getD k 0, rfl, rfl⟩ (by first | exact mp_fd_ok mp_k_cX0_init_ok (by decide +kernel) | decide +kernel)

set_option maxHeartbeats 4000000 in
set_option maxRecDepth 100000 in
theorem k_Threat (E : mp_E) (h0 : Nat) : mp_Ct E yX6_init cX6_init 4 none 1 2 108 12 [.ref h0] [(h0, .inr (6, [.int 0, .null, .null]))] (fun v w' => v = none ∧ ∃ b : Nat → Nat, ∃ vs : Nat → Int32, b 0 = h0 ∧ w' = [(mp_ob6 h0 0 (b 1) (b 2)), (mp_arI E (b 1) 0 8 (fun _ => 0)), (mp_arI E (b 2) 0 100 vs)]) := by
  refine mp_met true (by decide) (by decide) (Nat.le_of_ble_eq_true rfl) (fun X hF hQ => ?_)
  have hF : mp_F E X (RX6, cX6_init, 4, (1, 2, 108, 12), none, true) := hF
  show mp_W E X 4 0 [(0, .ref h0)] [] [(h0, .inr (6, [.int 0, .null, .null]))] 0 0
  refine mp_run mp_k_cX6_init_ok hF mp_tabX6_ok [mp_i (.aload_n 0)] (by decide +kernel) ?_
  show mp_W E X 4 1 [(0, .ref h0)] [.ref h0] [(h0, .inr (6, [.int 0, .null, .null]))] 0 0
  refine mp_objInit hF (idx := 3) (mp_gm (j := 2098) (by decide +kernel)) ⟨(Nat.le_of_ble_eq_true rfl), (Nat.le_of_ble_eq_true rfl)⟩ (by first | exact mp_fd_ok mp_k_cX6_init_ok (by decide +kernel) | decide +kernel) ?_
  show mp_W E X 4 4 [(0, .ref h0)] [] [(h0, .inr (6, [.int 0, .null, .null]))] 0 0
  refine mp_run mp_k_cX6_init_ok hF mp_tabX6_ok [mp_i (.aload_n 0), mp_c (.bipush 8) 8, mp_h (.newarray .int) [8], mp_h (.putfield 11) [1, 0]] (by decide +kernel) ?_
  refine And.intro (by decide) (And.intro (Nat.le_of_ble_eq_true rfl) (And.intro (Nat.le_of_ble_eq_true rfl) (And.intro (by decide) ?_)))
  intro q1
  refine And.intro rfl (And.intro rfl (And.intro rfl (And.intro rfl (And.intro (Nat.le_of_ble_eq_true rfl) ?_))))
  show mp_W E X 4 12 [(0, .ref h0)] [] [(h0, .inr (6, [.int 0, .ref q1, .null])), (mp_arI E q1 0 8 (fun _ => 0))] 1 8
  refine mp_run mp_k_cX6_init_ok hF mp_tabX6_ok [mp_i (.aload_n 0), mp_c (.bipush 100) 100, mp_h (.newarray .int) [100], mp_h (.putfield 15) [2, 0]] (by decide +kernel) ?_
  refine And.intro (by decide) (And.intro (Nat.le_of_ble_eq_true rfl) (And.intro (Nat.le_of_ble_eq_true rfl) (And.intro (by decide) ?_)))
  intro q2
  refine And.intro rfl (And.intro rfl (And.intro rfl (And.intro rfl (And.intro (Nat.le_of_ble_eq_true rfl) ?_))))
  show mp_W E X 4 20 [(0, .ref h0)] [] [(mp_ob6 h0 0 q1 q2), (mp_arI E q1 0 8 (fun _ => 0)), (mp_arI E q2 0 100 (fun _ => 0))] 2 108
  refine mp_run mp_k_cX6_init_ok hF mp_tabX6_ok [mp_c (.iconst 1) 1, mp_i (.istore_n 1)] (by decide +kernel) ?_
  show mp_W E X 4 22 [(1, .int 1), (0, .ref h0)] [] [(mp_ob6 h0 0 q1 q2), (mp_arI E q1 0 8 (fun _ => 0)), (mp_arI E q2 0 100 (fun _ => 0))] 2 108
  have lp3 : ∀ (d4 : Nat) (i6 : Int32) (g7 : Nat → Int32), 1 ≤ i6.toInt → i6.toInt + d4 = 100 → mp_W E X 4 22 [(1, .int i6), (0, .ref h0)] [] [(mp_ob6 h0 0 q1 q2), (mp_arI E q1 0 8 (fun _ => 0)), (mp_arI E q2 0 100 g7)] 2 108 := by
    intro d4
    induction d4 with
    | zero =>
      intro i6 g7 h8 h9
      refine mp_run mp_k_cX6_init_ok hF mp_tabX6_ok [mp_i (.iload_n 1), mp_c (.bipush 99) 99, mp_h (.if_icmp .gt 58) [83]] (by decide +kernel) ?_
      refine And.intro (fun c10 => ?_) (fun c10 => ?_)
      · have c10 : 99 < i6.toInt := c10
        show mp_W E X 4 83 [(1, .int i6), (0, .ref h0)] [] [(mp_ob6 h0 0 q1 q2), (mp_arI E q1 0 8 (fun _ => 0)), (mp_arI E q2 0 100 g7)] 2 108
        exact mp_vret hF hQ rfl (Nat.le_of_ble_eq_true rfl) (Nat.le_of_ble_eq_true rfl) [0, 1, 2] (w' := [(mp_ob6 h0 0 q1 q2), (mp_arI E q1 0 8 (fun _ => 0)), (mp_arI E q2 0 100 g7)]) rfl rfl ⟨rfl, fun k => ([h0, q1, q2] : List Nat).getD k 0, g7, rfl, rfl⟩ (by first | exact mp_fd_ok mp_k_cX6_init_ok (by decide +kernel) | decide +kernel)
      · have c10 : i6.toInt ≤ 99 := c10
        exfalso; omega
    | succ d4 ih5 =>
      intro i6 g7 h8 h9
      refine mp_run mp_k_cX6_init_ok hF mp_tabX6_ok [mp_i (.iload_n 1), mp_c (.bipush 99) 99, mp_h (.if_icmp .gt 58) [83]] (by decide +kernel) ?_
      refine And.intro (fun c11 => ?_) (fun c11 => ?_)
      · have c11 : 99 < i6.toInt := c11
        exfalso; omega
      · have c11 : i6.toInt ≤ 99 := c11
        show mp_W E X 4 28 [(1, .int i6), (0, .ref h0)] [] [(mp_ob6 h0 0 q1 q2), (mp_arI E q1 0 8 (fun _ => 0)), (mp_arI E q2 0 100 g7)] 2 108
        refine mp_run mp_k_cX6_init_ok hF mp_tabX6_ok [mp_c (.iconst 0) 0, mp_i (.istore_n 2), mp_c (.iconst 0) 0, mp_i (.istore_n 3), mp_i (.iload_n 3), mp_c (.iconst 2) 2, mp_h (.if_icmp .ge 36) [70]] (by decide +kernel) ?_
        refine And.intro (fun c12 => absurd c12 (by decide)) (fun _ => ?_)
        show mp_W E X 4 37 [(3, .int 0), (2, .int 0), (1, .int i6), (0, .ref h0)] [] [(mp_ob6 h0 0 q1 q2), (mp_arI E q1 0 8 (fun _ => 0)), (mp_arI E q2 0 100 g7)] 2 108
        refine mp_run mp_k_cX6_init_ok hF mp_tabX6_ok [mp_i (.iload_n 2), mp_i (.aload_n 0), mp_h (.getfield 15) [2, 0], mp_i (.iload_n 1), mp_c (.iconst 1) 1, mp_i .isub, mp_h .iaload [2], mp_h (.if_icmp .eq 15) [61]] (by decide +kernel) ?_
        refine And.intro rfl (And.intro rfl ?_)
        intro z13 h14
        have e15 : z13.toInt = i6.toInt - 1 := mp_subi (a := i6.toInt) (b := 1) h14 rfl (by decide) (by omega) (by omega)
        refine And.intro rfl (And.intro rfl (And.intro (vp_in_iff.mpr (by omega)) ?_))
        intro z16 h17
        refine And.intro (fun c18 => ?_) (fun c18 => ?_)
        · have c18 : 0 = z16.toInt := (congrArg Int32.toInt c18)
          show mp_W E X 4 61 [(3, .int 0), (2, .int 0), (1, .int i6), (0, .ref h0)] [] [(mp_ob6 h0 0 q1 q2), (mp_arI E q1 0 8 (fun _ => 0)), (mp_arI E q2 0 100 g7)] 2 108
          refine mp_run mp_k_cX6_init_ok hF mp_tabX6_ok [mp_c (.iinc 2 1) 1, mp_c (.iinc 3 1) 1, mp_h (.goto (-35)) [32], mp_i (.iload_n 3), mp_c (.iconst 2) 2, mp_h (.if_icmp .ge 36) [70]] (by decide +kernel) ?_
          intro z19 h20
          obtain rfl : z19 = 1 := h20.trans (by decide)
          intro z21 h22
          obtain rfl : z21 = 1 := h22.trans (by decide)
          refine And.intro (fun c23 => absurd c23 (by decide)) (fun _ => ?_)
          show mp_W E X 4 37 [(3, .int 1), (2, .int 1), (1, .int i6), (0, .ref h0)] [] [(mp_ob6 h0 0 q1 q2), (mp_arI E q1 0 8 (fun _ => 0)), (mp_arI E q2 0 100 g7)] 2 108
          refine mp_run mp_k_cX6_init_ok hF mp_tabX6_ok [mp_i (.iload_n 2), mp_i (.aload_n 0), mp_h (.getfield 15) [2, 0], mp_i (.iload_n 1), mp_c (.iconst 1) 1, mp_i .isub, mp_h .iaload [2], mp_h (.if_icmp .eq 15) [61]] (by decide +kernel) ?_
          refine And.intro rfl (And.intro rfl ?_)
          intro z24 h25
          have e26 : z24.toInt = i6.toInt - 1 := mp_subi (a := i6.toInt) (b := 1) h25 rfl (by decide) (by omega) (by omega)
          refine And.intro rfl (And.intro rfl (And.intro (vp_in_iff.mpr (by omega)) ?_))
          intro z27 h28
          refine And.intro (fun c29 => ?_) (fun c29 => ?_)
          · have c29 : 1 = z27.toInt := (congrArg Int32.toInt c29)
            show mp_W E X 4 61 [(3, .int 1), (2, .int 1), (1, .int i6), (0, .ref h0)] [] [(mp_ob6 h0 0 q1 q2), (mp_arI E q1 0 8 (fun _ => 0)), (mp_arI E q2 0 100 g7)] 2 108
            refine mp_run mp_k_cX6_init_ok hF mp_tabX6_ok [mp_c (.iinc 2 1) 1, mp_c (.iinc 3 1) 1, mp_h (.goto (-35)) [32], mp_i (.iload_n 3), mp_c (.iconst 2) 2, mp_h (.if_icmp .ge 36) [70]] (by decide +kernel) ?_
            intro z30 h31
            obtain rfl : z30 = 2 := h31.trans (by decide)
            intro z32 h33
            obtain rfl : z32 = 2 := h33.trans (by decide)
            refine And.intro (fun _ => ?_) (fun c34 => absurd c34 (by decide))
            show mp_W E X 4 70 [(3, .int 2), (2, .int 2), (1, .int i6), (0, .ref h0)] [] [(mp_ob6 h0 0 q1 q2), (mp_arI E q1 0 8 (fun _ => 0)), (mp_arI E q2 0 100 g7)] 2 108
            refine mp_run mp_k_cX6_init_ok hF mp_tabX6_ok [mp_i (.aload_n 0), mp_h (.getfield 15) [2, 0], mp_i (.iload_n 1), mp_i (.iload_n 2), mp_h .iastore [2]] (by decide +kernel) ?_
            refine And.intro rfl (And.intro rfl ?_)
            refine And.intro rfl (And.intro rfl (And.intro (vp_in_iff.mpr (by omega)) ?_))
            intro g35 h36
            show mp_W E X 4 77 [(3, .int 2), (2, .int 2), (1, .int i6), (0, .ref h0)] [] [(mp_ob6 h0 0 q1 q2), (mp_arI E q1 0 8 (fun _ => 0)), (mp_arI E q2 0 100 g35)] 2 108
            refine mp_run mp_k_cX6_init_ok hF mp_tabX6_ok [mp_c (.iinc 1 1) 1, mp_h (.goto (-58)) [22]] (by decide +kernel) ?_
            intro z37 h38
            have e39 : z37.toInt = i6.toInt + 1 := mp_add (a := i6.toInt) (b := 1) h38 rfl (by decide) (by omega) (by omega)
            show mp_W E X 4 22 [(1, .int z37), (3, .int 2), (2, .int 2), (0, .ref h0)] [] [(mp_ob6 h0 0 q1 q2), (mp_arI E q1 0 8 (fun _ => 0)), (mp_arI E q2 0 100 g35)] 2 108
            exact mp_sub [0, 3] rfl [0, 1, 2] rfl rfl (ih5 z37 g35 (by omega) (by omega))
          · have c29 : 1 ≠ z27.toInt := c29
            show mp_W E X 4 49 [(3, .int 1), (2, .int 1), (1, .int i6), (0, .ref h0)] [] [(mp_ob6 h0 0 q1 q2), (mp_arI E q1 0 8 (fun _ => 0)), (mp_arI E q2 0 100 g7)] 2 108
            refine mp_run mp_k_cX6_init_ok hF mp_tabX6_ok [mp_i (.iload_n 2), mp_i (.aload_n 0), mp_h (.getfield 15) [2, 0], mp_i (.iload_n 1), mp_c (.iconst 2) 2, mp_i .idiv, mp_h .iaload [2], mp_h (.if_icmp .ne 6) [64]] (by decide +kernel) ?_
            refine And.intro rfl (And.intro rfl ?_)
            refine And.intro (by decide) ?_
            intro z40 h41
            have e42 : z40.toInt = i6.toInt / 2 := mp_div (a := i6.toInt) (b := 2) h41 rfl (by decide) (by omega) (by decide)
            refine And.intro rfl (And.intro rfl (And.intro (vp_in_iff.mpr (by omega)) ?_))
            intro z43 h44
            refine And.intro (fun c45 => ?_) (fun c45 => ?_)
            · have c45 : 1 ≠ z43.toInt := c45
              show mp_W E X 4 64 [(3, .int 1), (2, .int 1), (1, .int i6), (0, .ref h0)] [] [(mp_ob6 h0 0 q1 q2), (mp_arI E q1 0 8 (fun _ => 0)), (mp_arI E q2 0 100 g7)] 2 108
              refine mp_run mp_k_cX6_init_ok hF mp_tabX6_ok [mp_c (.iinc 3 1) 1, mp_h (.goto (-35)) [32], mp_i (.iload_n 3), mp_c (.iconst 2) 2, mp_h (.if_icmp .ge 36) [70]] (by decide +kernel) ?_
              intro z46 h47
              obtain rfl : z46 = 2 := h47.trans (by decide)
              refine And.intro (fun _ => ?_) (fun c48 => absurd c48 (by decide))
              show mp_W E X 4 70 [(3, .int 2), (2, .int 1), (1, .int i6), (0, .ref h0)] [] [(mp_ob6 h0 0 q1 q2), (mp_arI E q1 0 8 (fun _ => 0)), (mp_arI E q2 0 100 g7)] 2 108
              refine mp_run mp_k_cX6_init_ok hF mp_tabX6_ok [mp_i (.aload_n 0), mp_h (.getfield 15) [2, 0], mp_i (.iload_n 1), mp_i (.iload_n 2), mp_h .iastore [2]] (by decide +kernel) ?_
              refine And.intro rfl (And.intro rfl ?_)
              refine And.intro rfl (And.intro rfl (And.intro (vp_in_iff.mpr (by omega)) ?_))
              intro g49 h50
              show mp_W E X 4 77 [(3, .int 2), (2, .int 1), (1, .int i6), (0, .ref h0)] [] [(mp_ob6 h0 0 q1 q2), (mp_arI E q1 0 8 (fun _ => 0)), (mp_arI E q2 0 100 g49)] 2 108
              refine mp_run mp_k_cX6_init_ok hF mp_tabX6_ok [mp_c (.iinc 1 1) 1, mp_h (.goto (-58)) [22]] (by decide +kernel) ?_
              intro z51 h52
              have e53 : z51.toInt = i6.toInt + 1 := mp_add (a := i6.toInt) (b := 1) h52 rfl (by decide) (by omega) (by omega)
              show mp_W E X 4 22 [(1, .int z51), (3, .int 2), (2, .int 1), (0, .ref h0)] [] [(mp_ob6 h0 0 q1 q2), (mp_arI E q1 0 8 (fun _ => 0)), (mp_arI E q2 0 100 g49)] 2 108
              exact mp_sub [0, 3] rfl [0, 1, 2] rfl rfl (ih5 z51 g49 (by omega) (by omega))
            · have c45 : 1 = z43.toInt := (congrArg Int32.toInt c45)
              show mp_W E X 4 61 [(3, .int 1), (2, .int 1), (1, .int i6), (0, .ref h0)] [] [(mp_ob6 h0 0 q1 q2), (mp_arI E q1 0 8 (fun _ => 0)), (mp_arI E q2 0 100 g7)] 2 108
              refine mp_run mp_k_cX6_init_ok hF mp_tabX6_ok [mp_c (.iinc 2 1) 1, mp_c (.iinc 3 1) 1, mp_h (.goto (-35)) [32], mp_i (.iload_n 3), mp_c (.iconst 2) 2, mp_h (.if_icmp .ge 36) [70]] (by decide +kernel) ?_
              intro z54 h55
              obtain rfl : z54 = 2 := h55.trans (by decide)
              intro z56 h57
              obtain rfl : z56 = 2 := h57.trans (by decide)
              refine And.intro (fun _ => ?_) (fun c58 => absurd c58 (by decide))
              show mp_W E X 4 70 [(3, .int 2), (2, .int 2), (1, .int i6), (0, .ref h0)] [] [(mp_ob6 h0 0 q1 q2), (mp_arI E q1 0 8 (fun _ => 0)), (mp_arI E q2 0 100 g7)] 2 108
              refine mp_run mp_k_cX6_init_ok hF mp_tabX6_ok [mp_i (.aload_n 0), mp_h (.getfield 15) [2, 0], mp_i (.iload_n 1), mp_i (.iload_n 2), mp_h .iastore [2]] (by decide +kernel) ?_
              refine And.intro rfl (And.intro rfl ?_)
              refine And.intro rfl (And.intro rfl (And.intro (vp_in_iff.mpr (by omega)) ?_))
              intro g59 h60
              show mp_W E X 4 77 [(3, .int 2), (2, .int 2), (1, .int i6), (0, .ref h0)] [] [(mp_ob6 h0 0 q1 q2), (mp_arI E q1 0 8 (fun _ => 0)), (mp_arI E q2 0 100 g59)] 2 108
              refine mp_run mp_k_cX6_init_ok hF mp_tabX6_ok [mp_c (.iinc 1 1) 1, mp_h (.goto (-58)) [22]] (by decide +kernel) ?_
              intro z61 h62
              have e63 : z61.toInt = i6.toInt + 1 := mp_add (a := i6.toInt) (b := 1) h62 rfl (by decide) (by omega) (by omega)
              show mp_W E X 4 22 [(1, .int z61), (3, .int 2), (2, .int 2), (0, .ref h0)] [] [(mp_ob6 h0 0 q1 q2), (mp_arI E q1 0 8 (fun _ => 0)), (mp_arI E q2 0 100 g59)] 2 108
              exact mp_sub [0, 3] rfl [0, 1, 2] rfl rfl (ih5 z61 g59 (by omega) (by omega))
        · have c18 : 0 ≠ z16.toInt := c18
          show mp_W E X 4 49 [(3, .int 0), (2, .int 0), (1, .int i6), (0, .ref h0)] [] [(mp_ob6 h0 0 q1 q2), (mp_arI E q1 0 8 (fun _ => 0)), (mp_arI E q2 0 100 g7)] 2 108
          refine mp_run mp_k_cX6_init_ok hF mp_tabX6_ok [mp_i (.iload_n 2), mp_i (.aload_n 0), mp_h (.getfield 15) [2, 0], mp_i (.iload_n 1), mp_c (.iconst 2) 2, mp_i .idiv, mp_h .iaload [2], mp_h (.if_icmp .ne 6) [64]] (by decide +kernel) ?_
          refine And.intro rfl (And.intro rfl ?_)
          refine And.intro (by decide) ?_
          intro z64 h65
          have e66 : z64.toInt = i6.toInt / 2 := mp_div (a := i6.toInt) (b := 2) h65 rfl (by decide) (by omega) (by decide)
          refine And.intro rfl (And.intro rfl (And.intro (vp_in_iff.mpr (by omega)) ?_))
          intro z67 h68
          refine And.intro (fun c69 => ?_) (fun c69 => ?_)
          · have c69 : 0 ≠ z67.toInt := c69
            show mp_W E X 4 64 [(3, .int 0), (2, .int 0), (1, .int i6), (0, .ref h0)] [] [(mp_ob6 h0 0 q1 q2), (mp_arI E q1 0 8 (fun _ => 0)), (mp_arI E q2 0 100 g7)] 2 108
            refine mp_run mp_k_cX6_init_ok hF mp_tabX6_ok [mp_c (.iinc 3 1) 1, mp_h (.goto (-35)) [32], mp_i (.iload_n 3), mp_c (.iconst 2) 2, mp_h (.if_icmp .ge 36) [70]] (by decide +kernel) ?_
            intro z70 h71
            obtain rfl : z70 = 1 := h71.trans (by decide)
            refine And.intro (fun c72 => absurd c72 (by decide)) (fun _ => ?_)
            show mp_W E X 4 37 [(3, .int 1), (2, .int 0), (1, .int i6), (0, .ref h0)] [] [(mp_ob6 h0 0 q1 q2), (mp_arI E q1 0 8 (fun _ => 0)), (mp_arI E q2 0 100 g7)] 2 108
            refine mp_run mp_k_cX6_init_ok hF mp_tabX6_ok [mp_i (.iload_n 2), mp_i (.aload_n 0), mp_h (.getfield 15) [2, 0], mp_i (.iload_n 1), mp_c (.iconst 1) 1, mp_i .isub, mp_h .iaload [2], mp_h (.if_icmp .eq 15) [61]] (by decide +kernel) ?_
            refine And.intro rfl (And.intro rfl ?_)
            intro z73 h74
            have e75 : z73.toInt = i6.toInt - 1 := mp_subi (a := i6.toInt) (b := 1) h74 rfl (by decide) (by omega) (by omega)
            refine And.intro rfl (And.intro rfl (And.intro (vp_in_iff.mpr (by omega)) ?_))
            intro z76 h77
            refine And.intro (fun c78 => ?_) (fun c78 => ?_)
            · have c78 : 0 = z76.toInt := (congrArg Int32.toInt c78)
              show mp_W E X 4 61 [(3, .int 1), (2, .int 0), (1, .int i6), (0, .ref h0)] [] [(mp_ob6 h0 0 q1 q2), (mp_arI E q1 0 8 (fun _ => 0)), (mp_arI E q2 0 100 g7)] 2 108
              refine mp_run mp_k_cX6_init_ok hF mp_tabX6_ok [mp_c (.iinc 2 1) 1, mp_c (.iinc 3 1) 1, mp_h (.goto (-35)) [32], mp_i (.iload_n 3), mp_c (.iconst 2) 2, mp_h (.if_icmp .ge 36) [70]] (by decide +kernel) ?_
              intro z79 h80
              obtain rfl : z79 = 1 := h80.trans (by decide)
              intro z81 h82
              obtain rfl : z81 = 2 := h82.trans (by decide)
              refine And.intro (fun _ => ?_) (fun c83 => absurd c83 (by decide))
              show mp_W E X 4 70 [(3, .int 2), (2, .int 1), (1, .int i6), (0, .ref h0)] [] [(mp_ob6 h0 0 q1 q2), (mp_arI E q1 0 8 (fun _ => 0)), (mp_arI E q2 0 100 g7)] 2 108
              refine mp_run mp_k_cX6_init_ok hF mp_tabX6_ok [mp_i (.aload_n 0), mp_h (.getfield 15) [2, 0], mp_i (.iload_n 1), mp_i (.iload_n 2), mp_h .iastore [2]] (by decide +kernel) ?_
              refine And.intro rfl (And.intro rfl ?_)
              refine And.intro rfl (And.intro rfl (And.intro (vp_in_iff.mpr (by omega)) ?_))
              intro g84 h85
              show mp_W E X 4 77 [(3, .int 2), (2, .int 1), (1, .int i6), (0, .ref h0)] [] [(mp_ob6 h0 0 q1 q2), (mp_arI E q1 0 8 (fun _ => 0)), (mp_arI E q2 0 100 g84)] 2 108
              refine mp_run mp_k_cX6_init_ok hF mp_tabX6_ok [mp_c (.iinc 1 1) 1, mp_h (.goto (-58)) [22]] (by decide +kernel) ?_
              intro z86 h87
              have e88 : z86.toInt = i6.toInt + 1 := mp_add (a := i6.toInt) (b := 1) h87 rfl (by decide) (by omega) (by omega)
              show mp_W E X 4 22 [(1, .int z86), (3, .int 2), (2, .int 1), (0, .ref h0)] [] [(mp_ob6 h0 0 q1 q2), (mp_arI E q1 0 8 (fun _ => 0)), (mp_arI E q2 0 100 g84)] 2 108
              exact mp_sub [0, 3] rfl [0, 1, 2] rfl rfl (ih5 z86 g84 (by omega) (by omega))
            · have c78 : 0 ≠ z76.toInt := c78
              show mp_W E X 4 49 [(3, .int 1), (2, .int 0), (1, .int i6), (0, .ref h0)] [] [(mp_ob6 h0 0 q1 q2), (mp_arI E q1 0 8 (fun _ => 0)), (mp_arI E q2 0 100 g7)] 2 108
              refine mp_run mp_k_cX6_init_ok hF mp_tabX6_ok [mp_i (.iload_n 2), mp_i (.aload_n 0), mp_h (.getfield 15) [2, 0], mp_i (.iload_n 1), mp_c (.iconst 2) 2, mp_i .idiv, mp_h .iaload [2], mp_h (.if_icmp .ne 6) [64]] (by decide +kernel) ?_
              refine And.intro rfl (And.intro rfl ?_)
              refine And.intro (by decide) ?_
              intro z89 h90
              have e91 : z89.toInt = i6.toInt / 2 := mp_div (a := i6.toInt) (b := 2) h90 rfl (by decide) (by omega) (by decide)
              refine And.intro rfl (And.intro rfl (And.intro (vp_in_iff.mpr (by omega)) ?_))
              intro z92 h93
              refine And.intro (fun c94 => ?_) (fun c94 => ?_)
              · have c94 : 0 ≠ z92.toInt := c94
                show mp_W E X 4 64 [(3, .int 1), (2, .int 0), (1, .int i6), (0, .ref h0)] [] [(mp_ob6 h0 0 q1 q2), (mp_arI E q1 0 8 (fun _ => 0)), (mp_arI E q2 0 100 g7)] 2 108
                refine mp_run mp_k_cX6_init_ok hF mp_tabX6_ok [mp_c (.iinc 3 1) 1, mp_h (.goto (-35)) [32], mp_i (.iload_n 3), mp_c (.iconst 2) 2, mp_h (.if_icmp .ge 36) [70]] (by decide +kernel) ?_
                intro z95 h96
                obtain rfl : z95 = 2 := h96.trans (by decide)
                refine And.intro (fun _ => ?_) (fun c97 => absurd c97 (by decide))
                show mp_W E X 4 70 [(3, .int 2), (2, .int 0), (1, .int i6), (0, .ref h0)] [] [(mp_ob6 h0 0 q1 q2), (mp_arI E q1 0 8 (fun _ => 0)), (mp_arI E q2 0 100 g7)] 2 108
                refine mp_run mp_k_cX6_init_ok hF mp_tabX6_ok [mp_i (.aload_n 0), mp_h (.getfield 15) [2, 0], mp_i (.iload_n 1), mp_i (.iload_n 2), mp_h .iastore [2]] (by decide +kernel) ?_
                refine And.intro rfl (And.intro rfl ?_)
                refine And.intro rfl (And.intro rfl (And.intro (vp_in_iff.mpr (by omega)) ?_))
                intro g98 h99
                show mp_W E X 4 77 [(3, .int 2), (2, .int 0), (1, .int i6), (0, .ref h0)] [] [(mp_ob6 h0 0 q1 q2), (mp_arI E q1 0 8 (fun _ => 0)), (mp_arI E q2 0 100 g98)] 2 108
                refine mp_run mp_k_cX6_init_ok hF mp_tabX6_ok [mp_c (.iinc 1 1) 1, mp_h (.goto (-58)) [22]] (by decide +kernel) ?_
                intro z100 h101
                have e102 : z100.toInt = i6.toInt + 1 := mp_add (a := i6.toInt) (b := 1) h101 rfl (by decide) (by omega) (by omega)
                show mp_W E X 4 22 [(1, .int z100), (3, .int 2), (2, .int 0), (0, .ref h0)] [] [(mp_ob6 h0 0 q1 q2), (mp_arI E q1 0 8 (fun _ => 0)), (mp_arI E q2 0 100 g98)] 2 108
                exact mp_sub [0, 3] rfl [0, 1, 2] rfl rfl (ih5 z100 g98 (by omega) (by omega))
              · have c94 : 0 = z92.toInt := (congrArg Int32.toInt c94)
                show mp_W E X 4 61 [(3, .int 1), (2, .int 0), (1, .int i6), (0, .ref h0)] [] [(mp_ob6 h0 0 q1 q2), (mp_arI E q1 0 8 (fun _ => 0)), (mp_arI E q2 0 100 g7)] 2 108
                refine mp_run mp_k_cX6_init_ok hF mp_tabX6_ok [mp_c (.iinc 2 1) 1, mp_c (.iinc 3 1) 1, mp_h (.goto (-35)) [32], mp_i (.iload_n 3), mp_c (.iconst 2) 2, mp_h (.if_icmp .ge 36) [70]] (by decide +kernel) ?_
                intro z103 h104
                obtain rfl : z103 = 1 := h104.trans (by decide)
                intro z105 h106
                obtain rfl : z105 = 2 := h106.trans (by decide)
                refine And.intro (fun _ => ?_) (fun c107 => absurd c107 (by decide))
                show mp_W E X 4 70 [(3, .int 2), (2, .int 1), (1, .int i6), (0, .ref h0)] [] [(mp_ob6 h0 0 q1 q2), (mp_arI E q1 0 8 (fun _ => 0)), (mp_arI E q2 0 100 g7)] 2 108
                refine mp_run mp_k_cX6_init_ok hF mp_tabX6_ok [mp_i (.aload_n 0), mp_h (.getfield 15) [2, 0], mp_i (.iload_n 1), mp_i (.iload_n 2), mp_h .iastore [2]] (by decide +kernel) ?_
                refine And.intro rfl (And.intro rfl ?_)
                refine And.intro rfl (And.intro rfl (And.intro (vp_in_iff.mpr (by omega)) ?_))
                intro g108 h109
                show mp_W E X 4 77 [(3, .int 2), (2, .int 1), (1, .int i6), (0, .ref h0)] [] [(mp_ob6 h0 0 q1 q2), (mp_arI E q1 0 8 (fun _ => 0)), (mp_arI E q2 0 100 g108)] 2 108
                refine mp_run mp_k_cX6_init_ok hF mp_tabX6_ok [mp_c (.iinc 1 1) 1, mp_h (.goto (-58)) [22]] (by decide +kernel) ?_
                intro z110 h111
                have e112 : z110.toInt = i6.toInt + 1 := mp_add (a := i6.toInt) (b := 1) h111 rfl (by decide) (by omega) (by omega)
                show mp_W E X 4 22 [(1, .int z110), (3, .int 2), (2, .int 1), (0, .ref h0)] [] [(mp_ob6 h0 0 q1 q2), (mp_arI E q1 0 8 (fun _ => 0)), (mp_arI E q2 0 100 g108)] 2 108
                exact mp_sub [0, 3] rfl [0, 1, 2] rfl rfl (ih5 z110 g108 (by omega) (by omega))
          · have c69 : 0 = z67.toInt := (congrArg Int32.toInt c69)
            show mp_W E X 4 61 [(3, .int 0), (2, .int 0), (1, .int i6), (0, .ref h0)] [] [(mp_ob6 h0 0 q1 q2), (mp_arI E q1 0 8 (fun _ => 0)), (mp_arI E q2 0 100 g7)] 2 108
            refine mp_run mp_k_cX6_init_ok hF mp_tabX6_ok [mp_c (.iinc 2 1) 1, mp_c (.iinc 3 1) 1, mp_h (.goto (-35)) [32], mp_i (.iload_n 3), mp_c (.iconst 2) 2, mp_h (.if_icmp .ge 36) [70]] (by decide +kernel) ?_
            intro z113 h114
            obtain rfl : z113 = 1 := h114.trans (by decide)
            intro z115 h116
            obtain rfl : z115 = 1 := h116.trans (by decide)
            refine And.intro (fun c117 => absurd c117 (by decide)) (fun _ => ?_)
            show mp_W E X 4 37 [(3, .int 1), (2, .int 1), (1, .int i6), (0, .ref h0)] [] [(mp_ob6 h0 0 q1 q2), (mp_arI E q1 0 8 (fun _ => 0)), (mp_arI E q2 0 100 g7)] 2 108
            refine mp_run mp_k_cX6_init_ok hF mp_tabX6_ok [mp_i (.iload_n 2), mp_i (.aload_n 0), mp_h (.getfield 15) [2, 0], mp_i (.iload_n 1), mp_c (.iconst 1) 1, mp_i .isub, mp_h .iaload [2], mp_h (.if_icmp .eq 15) [61]] (by decide +kernel) ?_
            refine And.intro rfl (And.intro rfl ?_)
            intro z118 h119
            have e120 : z118.toInt = i6.toInt - 1 := mp_subi (a := i6.toInt) (b := 1) h119 rfl (by decide) (by omega) (by omega)
            refine And.intro rfl (And.intro rfl (And.intro (vp_in_iff.mpr (by omega)) ?_))
            intro z121 h122
            refine And.intro (fun c123 => ?_) (fun c123 => ?_)
            · have c123 : 1 = z121.toInt := (congrArg Int32.toInt c123)
              show mp_W E X 4 61 [(3, .int 1), (2, .int 1), (1, .int i6), (0, .ref h0)] [] [(mp_ob6 h0 0 q1 q2), (mp_arI E q1 0 8 (fun _ => 0)), (mp_arI E q2 0 100 g7)] 2 108
              refine mp_run mp_k_cX6_init_ok hF mp_tabX6_ok [mp_c (.iinc 2 1) 1, mp_c (.iinc 3 1) 1, mp_h (.goto (-35)) [32], mp_i (.iload_n 3), mp_c (.iconst 2) 2, mp_h (.if_icmp .ge 36) [70]] (by decide +kernel) ?_
              intro z124 h125
              obtain rfl : z124 = 2 := h125.trans (by decide)
              intro z126 h127
              obtain rfl : z126 = 2 := h127.trans (by decide)
              refine And.intro (fun _ => ?_) (fun c128 => absurd c128 (by decide))
              show mp_W E X 4 70 [(3, .int 2), (2, .int 2), (1, .int i6), (0, .ref h0)] [] [(mp_ob6 h0 0 q1 q2), (mp_arI E q1 0 8 (fun _ => 0)), (mp_arI E q2 0 100 g7)] 2 108
              refine mp_run mp_k_cX6_init_ok hF mp_tabX6_ok [mp_i (.aload_n 0), mp_h (.getfield 15) [2, 0], mp_i (.iload_n 1), mp_i (.iload_n 2), mp_h .iastore [2]] (by decide +kernel) ?_
              refine And.intro rfl (And.intro rfl ?_)
              refine And.intro rfl (And.intro rfl (And.intro (vp_in_iff.mpr (by omega)) ?_))
              intro g129 h130
              show mp_W E X 4 77 [(3, .int 2), (2, .int 2), (1, .int i6), (0, .ref h0)] [] [(mp_ob6 h0 0 q1 q2), (mp_arI E q1 0 8 (fun _ => 0)), (mp_arI E q2 0 100 g129)] 2 108
              refine mp_run mp_k_cX6_init_ok hF mp_tabX6_ok [mp_c (.iinc 1 1) 1, mp_h (.goto (-58)) [22]] (by decide +kernel) ?_
              intro z131 h132
              have e133 : z131.toInt = i6.toInt + 1 := mp_add (a := i6.toInt) (b := 1) h132 rfl (by decide) (by omega) (by omega)
              show mp_W E X 4 22 [(1, .int z131), (3, .int 2), (2, .int 2), (0, .ref h0)] [] [(mp_ob6 h0 0 q1 q2), (mp_arI E q1 0 8 (fun _ => 0)), (mp_arI E q2 0 100 g129)] 2 108
              exact mp_sub [0, 3] rfl [0, 1, 2] rfl rfl (ih5 z131 g129 (by omega) (by omega))
            · have c123 : 1 ≠ z121.toInt := c123
              show mp_W E X 4 49 [(3, .int 1), (2, .int 1), (1, .int i6), (0, .ref h0)] [] [(mp_ob6 h0 0 q1 q2), (mp_arI E q1 0 8 (fun _ => 0)), (mp_arI E q2 0 100 g7)] 2 108
              refine mp_run mp_k_cX6_init_ok hF mp_tabX6_ok [mp_i (.iload_n 2), mp_i (.aload_n 0), mp_h (.getfield 15) [2, 0], mp_i (.iload_n 1), mp_c (.iconst 2) 2, mp_i .idiv, mp_h .iaload [2], mp_h (.if_icmp .ne 6) [64]] (by decide +kernel) ?_
              refine And.intro rfl (And.intro rfl ?_)
              refine And.intro (by decide) ?_
              intro z134 h135
              have e136 : z134.toInt = i6.toInt / 2 := mp_div (a := i6.toInt) (b := 2) h135 rfl (by decide) (by omega) (by decide)
              refine And.intro rfl (And.intro rfl (And.intro (vp_in_iff.mpr (by omega)) ?_))
              intro z137 h138
              refine And.intro (fun c139 => ?_) (fun c139 => ?_)
              · have c139 : 1 ≠ z137.toInt := c139
                show mp_W E X 4 64 [(3, .int 1), (2, .int 1), (1, .int i6), (0, .ref h0)] [] [(mp_ob6 h0 0 q1 q2), (mp_arI E q1 0 8 (fun _ => 0)), (mp_arI E q2 0 100 g7)] 2 108
                refine mp_run mp_k_cX6_init_ok hF mp_tabX6_ok [mp_c (.iinc 3 1) 1, mp_h (.goto (-35)) [32], mp_i (.iload_n 3), mp_c (.iconst 2) 2, mp_h (.if_icmp .ge 36) [70]] (by decide +kernel) ?_
                intro z140 h141
                obtain rfl : z140 = 2 := h141.trans (by decide)
                refine And.intro (fun _ => ?_) (fun c142 => absurd c142 (by decide))
                show mp_W E X 4 70 [(3, .int 2), (2, .int 1), (1, .int i6), (0, .ref h0)] [] [(mp_ob6 h0 0 q1 q2), (mp_arI E q1 0 8 (fun _ => 0)), (mp_arI E q2 0 100 g7)] 2 108
                refine mp_run mp_k_cX6_init_ok hF mp_tabX6_ok [mp_i (.aload_n 0), mp_h (.getfield 15) [2, 0], mp_i (.iload_n 1), mp_i (.iload_n 2), mp_h .iastore [2]] (by decide +kernel) ?_
                refine And.intro rfl (And.intro rfl ?_)
                refine And.intro rfl (And.intro rfl (And.intro (vp_in_iff.mpr (by omega)) ?_))
                intro g143 h144
                show mp_W E X 4 77 [(3, .int 2), (2, .int 1), (1, .int i6), (0, .ref h0)] [] [(mp_ob6 h0 0 q1 q2), (mp_arI E q1 0 8 (fun _ => 0)), (mp_arI E q2 0 100 g143)] 2 108
                refine mp_run mp_k_cX6_init_ok hF mp_tabX6_ok [mp_c (.iinc 1 1) 1, mp_h (.goto (-58)) [22]] (by decide +kernel) ?_
                intro z145 h146
                have e147 : z145.toInt = i6.toInt + 1 := mp_add (a := i6.toInt) (b := 1) h146 rfl (by decide) (by omega) (by omega)
                show mp_W E X 4 22 [(1, .int z145), (3, .int 2), (2, .int 1), (0, .ref h0)] [] [(mp_ob6 h0 0 q1 q2), (mp_arI E q1 0 8 (fun _ => 0)), (mp_arI E q2 0 100 g143)] 2 108
                exact mp_sub [0, 3] rfl [0, 1, 2] rfl rfl (ih5 z145 g143 (by omega) (by omega))
              · have c139 : 1 = z137.toInt := (congrArg Int32.toInt c139)
                show mp_W E X 4 61 [(3, .int 1), (2, .int 1), (1, .int i6), (0, .ref h0)] [] [(mp_ob6 h0 0 q1 q2), (mp_arI E q1 0 8 (fun _ => 0)), (mp_arI E q2 0 100 g7)] 2 108
                refine mp_run mp_k_cX6_init_ok hF mp_tabX6_ok [mp_c (.iinc 2 1) 1, mp_c (.iinc 3 1) 1, mp_h (.goto (-35)) [32], mp_i (.iload_n 3), mp_c (.iconst 2) 2, mp_h (.if_icmp .ge 36) [70]] (by decide +kernel) ?_
                intro z148 h149
                obtain rfl : z148 = 2 := h149.trans (by decide)
                intro z150 h151
                obtain rfl : z150 = 2 := h151.trans (by decide)
                refine And.intro (fun _ => ?_) (fun c152 => absurd c152 (by decide))
                show mp_W E X 4 70 [(3, .int 2), (2, .int 2), (1, .int i6), (0, .ref h0)] [] [(mp_ob6 h0 0 q1 q2), (mp_arI E q1 0 8 (fun _ => 0)), (mp_arI E q2 0 100 g7)] 2 108
                refine mp_run mp_k_cX6_init_ok hF mp_tabX6_ok [mp_i (.aload_n 0), mp_h (.getfield 15) [2, 0], mp_i (.iload_n 1), mp_i (.iload_n 2), mp_h .iastore [2]] (by decide +kernel) ?_
                refine And.intro rfl (And.intro rfl ?_)
                refine And.intro rfl (And.intro rfl (And.intro (vp_in_iff.mpr (by omega)) ?_))
                intro g153 h154
                show mp_W E X 4 77 [(3, .int 2), (2, .int 2), (1, .int i6), (0, .ref h0)] [] [(mp_ob6 h0 0 q1 q2), (mp_arI E q1 0 8 (fun _ => 0)), (mp_arI E q2 0 100 g153)] 2 108
                refine mp_run mp_k_cX6_init_ok hF mp_tabX6_ok [mp_c (.iinc 1 1) 1, mp_h (.goto (-58)) [22]] (by decide +kernel) ?_
                intro z155 h156
                have e157 : z155.toInt = i6.toInt + 1 := mp_add (a := i6.toInt) (b := 1) h156 rfl (by decide) (by omega) (by omega)
                show mp_W E X 4 22 [(1, .int z155), (3, .int 2), (2, .int 2), (0, .ref h0)] [] [(mp_ob6 h0 0 q1 q2), (mp_arI E q1 0 8 (fun _ => 0)), (mp_arI E q2 0 100 g153)] 2 108
                exact mp_sub [0, 3] rfl [0, 1, 2] rfl rfl (ih5 z155 g153 (by omega) (by omega))
  exact mp_sub [0, 1] rfl [0, 1, 2] rfl rfl (lp3 99 1 ((fun _ => 0)) (by decide) (by decide))

set_option maxHeartbeats 4000000 in
set_option maxRecDepth 100000 in
theorem k_Model (E : mp_E) (h0 : Nat) : mp_Ct E yX10_init cX10_init 2 none 1 25 7624 12 [.ref h0] [(h0, .inr (10, [.int 0, .null, .null, .null, .null, .null, .int 0, .int 0, .int 0, .int 0, .int 0, .long 0, .int 0, .int 0, .int 0, .int 0, .null, .null, .null, .null, .null, .null, .null, .null, .int 0, .null, .null, .null, .null, .int 0, .int 0, .int 0, .null, .null, .int 0, .int 0, .null, .null, .null, .int 0, .int 0, .int 0, .int 0, .null, .null, .null, .int 0]))] (fun v w' => v = none ∧ ∃ b : Nat → Nat, ∃ wd : Nat → Int32, b 0 = h0 ∧ (∀ j, j < 4 → wd j = -1) ∧ w' = [(mp_ob10 h0 0 (b 1) (b 2) (b 3) (b 4) (b 5) 0 0 0 0 0 0 0 0 0 (-1) (b 6) (b 7) (b 8) (b 9) (b 10) (b 11) (b 12) (b 13) 0 (b 14) (b 15) (b 16) (b 17) 0 0 0 (b 18) (b 19) 0 0 (b 20) (b 21) (b 22) 0 0 0 0 (b 23) (b 24) (b 25) 0), (mp_arI E (b 1) 0 4 wd), (mp_arI E (b 2) 0 4 (fun _ => 0)), (mp_arL E (b 3) 240 (fun _ => 0)), (mp_arL E (b 4) 60 (fun _ => 0)), (mp_arI E (b 5) 1 1600 (fun _ => 0)), (mp_arI E (b 6) 0 5 (fun _ => 0)), (mp_arI E (b 7) 0 25 (fun _ => 0)), (mp_arI E (b 8) 0 180 (fun _ => 0)), (mp_arI E (b 9) 3 3000 (fun _ => 0)), (mp_arI E (b 10) 0 90 (fun _ => 0)), (mp_arI E (b 11) 0 300 (fun _ => 0)), (mp_arI E (b 12) 0 300 (fun _ => 0)), (mp_arI E (b 13) 3 3 (fun _ => 0)), (mp_arI E (b 14) 0 6 (fun _ => 0)), (mp_arI E (b 15) 0 6 (fun _ => 0)), (mp_arI E (b 16) 0 6 (fun _ => 0)), (mp_arI E (b 17) 3 1500 (fun _ => 0)), (mp_arI E (b 18) 0 78 (fun _ => 0)), (mp_arL E (b 19) 78 (fun _ => 0)), (mp_arI E (b 20) 0 6 (fun _ => 0)), (mp_arI E (b 21) 0 6 (fun _ => 0)), (mp_arI E (b 22) 0 3 (fun _ => 0)), (mp_arI E (b 23) 0 12 (fun _ => 0)), (mp_arI E (b 24) 0 12 (fun _ => 0)), (mp_arI E (b 25) 0 100 (fun _ => 0))]) := by
  refine mp_met true (by decide) (by decide) (Nat.le_of_ble_eq_true rfl) (fun X hF hQ => ?_)
  have hF : mp_F E X (RX10, cX10_init, 2, (1, 25, 7624, 12), none, true) := hF
  let w1_ : va_W := [(h0, .inr (10, [.int 0, .null, .null, .null, .null, .null, .int 0, .int 0, .int 0, .int 0, .int 0, .long 0, .int 0, .int 0, .int 0, .int 0, .null, .null, .null, .null, .null, .null, .null, .null, .int 0, .null, .null, .null, .null, .int 0, .int 0, .int 0, .null, .null, .int 0, .int 0, .null, .null, .null, .int 0, .int 0, .int 0, .int 0, .null, .null, .null, .int 0]))]
  show mp_W E X 2 0 [(0, .ref h0)] [] w1_ 0 0
  refine mp_run mp_k_cX10_init_ok hF mp_tabX10_ok [mp_i (.aload_n 0)] (by decide +kernel) ?_
  show mp_W E X 2 1 [(0, .ref h0)] [.ref h0] w1_ 0 0
  refine mp_objInit hF (idx := 1) (mp_gm (j := 6010) (by decide +kernel)) ⟨(Nat.le_of_ble_eq_true rfl), (Nat.le_of_ble_eq_true rfl)⟩ (by first | exact mp_fd_ok mp_k_cX10_init_ok (by decide +kernel) | decide +kernel) ?_
  show mp_W E X 2 4 [(0, .ref h0)] [] w1_ 0 0
  refine mp_run mp_k_cX10_init_ok hF mp_tabX10_ok [mp_i (.aload_n 0), mp_c (.iconst 4) 4, mp_h (.newarray .int) [4], mp_h (.putfield 7) [1, 0]] (by decide +kernel) ?_
  refine And.intro (by decide) (And.intro (Nat.le_of_ble_eq_true rfl) (And.intro (Nat.le_of_ble_eq_true rfl) (And.intro (by decide) ?_)))
  intro q1
  refine And.intro rfl (And.intro rfl (And.intro rfl (And.intro rfl (And.intro (Nat.le_of_ble_eq_true rfl) ?_))))
  let w2_ : va_W := [(h0, .inr (10, [.int 0, .ref q1, .null, .null, .null, .null, .int 0, .int 0, .int 0, .int 0, .int 0, .long 0, .int 0, .int 0, .int 0, .int 0, .null, .null, .null, .null, .null, .null, .null, .null, .int 0, .null, .null, .null, .null, .int 0, .int 0, .int 0, .null, .null, .int 0, .int 0, .null, .null, .null, .int 0, .int 0, .int 0, .int 0, .null, .null, .null, .int 0])), (mp_arI E q1 0 4 (fun _ => 0))]
  show mp_W E X 2 11 [(0, .ref h0)] [] w2_ 1 4
  refine mp_run mp_k_cX10_init_ok hF mp_tabX10_ok [mp_i (.aload_n 0), mp_c (.iconst 4) 4, mp_h (.newarray .int) [4], mp_h (.putfield 13) [2, 0]] (by decide +kernel) ?_
  refine And.intro (by decide) (And.intro (Nat.le_of_ble_eq_true rfl) (And.intro (Nat.le_of_ble_eq_true rfl) (And.intro (by decide) ?_)))
  intro q2
  refine And.intro rfl (And.intro rfl (And.intro rfl (And.intro rfl (And.intro (Nat.le_of_ble_eq_true rfl) ?_))))
  let w3_ : va_W := [(h0, .inr (10, [.int 0, .ref q1, .ref q2, .null, .null, .null, .int 0, .int 0, .int 0, .int 0, .int 0, .long 0, .int 0, .int 0, .int 0, .int 0, .null, .null, .null, .null, .null, .null, .null, .null, .int 0, .null, .null, .null, .null, .int 0, .int 0, .int 0, .null, .null, .int 0, .int 0, .null, .null, .null, .int 0, .int 0, .int 0, .int 0, .null, .null, .null, .int 0])), (mp_arI E q1 0 4 (fun _ => 0)), (mp_arI E q2 0 4 (fun _ => 0))]
  show mp_W E X 2 18 [(0, .ref h0)] [] w3_ 2 8
  refine mp_run mp_k_cX10_init_ok hF mp_tabX10_ok [mp_i (.aload_n 0), mp_c (.sipush 240) 240, mp_h (.newarray .long) [240], mp_h (.putfield 16) [3, 0]] (by decide +kernel) ?_
  refine And.intro (by decide) (And.intro (Nat.le_of_ble_eq_true rfl) (And.intro (Nat.le_of_ble_eq_true rfl) (And.intro (by decide) ?_)))
  intro q3
  refine And.intro rfl (And.intro rfl (And.intro rfl (And.intro rfl (And.intro (Nat.le_of_ble_eq_true rfl) ?_))))
  let w4_ : va_W := [(h0, .inr (10, [.int 0, .ref q1, .ref q2, .ref q3, .null, .null, .int 0, .int 0, .int 0, .int 0, .int 0, .long 0, .int 0, .int 0, .int 0, .int 0, .null, .null, .null, .null, .null, .null, .null, .null, .int 0, .null, .null, .null, .null, .int 0, .int 0, .int 0, .null, .null, .int 0, .int 0, .null, .null, .null, .int 0, .int 0, .int 0, .int 0, .null, .null, .null, .int 0])), (mp_arI E q1 0 4 (fun _ => 0)), (mp_arI E q2 0 4 (fun _ => 0)), (mp_arL E q3 240 (fun _ => 0))]
  show mp_W E X 2 27 [(0, .ref h0)] [] w4_ 3 248
  refine mp_run mp_k_cX10_init_ok hF mp_tabX10_ok [mp_i (.aload_n 0), mp_c (.bipush 60) 60, mp_h (.newarray .long) [60], mp_h (.putfield 20) [4, 0]] (by decide +kernel) ?_
  refine And.intro (by decide) (And.intro (Nat.le_of_ble_eq_true rfl) (And.intro (Nat.le_of_ble_eq_true rfl) (And.intro (by decide) ?_)))
  intro q4
  refine And.intro rfl (And.intro rfl (And.intro rfl (And.intro rfl (And.intro (Nat.le_of_ble_eq_true rfl) ?_))))
  let w5_ : va_W := [(h0, .inr (10, [.int 0, .ref q1, .ref q2, .ref q3, .ref q4, .null, .int 0, .int 0, .int 0, .int 0, .int 0, .long 0, .int 0, .int 0, .int 0, .int 0, .null, .null, .null, .null, .null, .null, .null, .null, .int 0, .null, .null, .null, .null, .int 0, .int 0, .int 0, .null, .null, .int 0, .int 0, .null, .null, .null, .int 0, .int 0, .int 0, .int 0, .null, .null, .null, .int 0])), (mp_arI E q1 0 4 (fun _ => 0)), (mp_arI E q2 0 4 (fun _ => 0)), (mp_arL E q3 240 (fun _ => 0)), (mp_arL E q4 60 (fun _ => 0))]
  show mp_W E X 2 35 [(0, .ref h0)] [] w5_ 4 308
  refine mp_run mp_k_cX10_init_ok hF mp_tabX10_ok [mp_i (.aload_n 0), mp_c (.sipush 1600) 1600, mp_h (.newarray .byte) [1600], mp_h (.putfield 23) [5, 0]] (by decide +kernel) ?_
  refine And.intro (by decide) (And.intro (Nat.le_of_ble_eq_true rfl) (And.intro (Nat.le_of_ble_eq_true rfl) (And.intro (by decide) ?_)))
  intro q5
  refine And.intro rfl (And.intro rfl (And.intro rfl (And.intro rfl (And.intro (Nat.le_of_ble_eq_true rfl) ?_))))
  let w6_ : va_W := [(h0, .inr (10, [.int 0, .ref q1, .ref q2, .ref q3, .ref q4, .ref q5, .int 0, .int 0, .int 0, .int 0, .int 0, .long 0, .int 0, .int 0, .int 0, .int 0, .null, .null, .null, .null, .null, .null, .null, .null, .int 0, .null, .null, .null, .null, .int 0, .int 0, .int 0, .null, .null, .int 0, .int 0, .null, .null, .null, .int 0, .int 0, .int 0, .int 0, .null, .null, .null, .int 0])), (mp_arI E q1 0 4 (fun _ => 0)), (mp_arI E q2 0 4 (fun _ => 0)), (mp_arL E q3 240 (fun _ => 0)), (mp_arL E q4 60 (fun _ => 0)), (mp_arI E q5 1 1600 (fun _ => 0))]
  show mp_W E X 2 44 [(0, .ref h0)] [] w6_ 5 1908
  refine mp_run mp_k_cX10_init_ok hF mp_tabX10_ok [mp_i (.aload_n 0), mp_c (.iconst (-1)) (-1), mp_h (.putfield 27) [15, 0]] (by decide +kernel) ?_
  refine And.intro rfl (And.intro rfl (And.intro rfl (And.intro rfl (And.intro (Nat.le_of_ble_eq_true rfl) ?_))))
  let w7_ : va_W := [(h0, .inr (10, [.int 0, .ref q1, .ref q2, .ref q3, .ref q4, .ref q5, .int 0, .int 0, .int 0, .int 0, .int 0, .long 0, .int 0, .int 0, .int 0, .int (-1), .null, .null, .null, .null, .null, .null, .null, .null, .int 0, .null, .null, .null, .null, .int 0, .int 0, .int 0, .null, .null, .int 0, .int 0, .null, .null, .null, .int 0, .int 0, .int 0, .int 0, .null, .null, .null, .int 0])), (mp_arI E q1 0 4 (fun _ => 0)), (mp_arI E q2 0 4 (fun _ => 0)), (mp_arL E q3 240 (fun _ => 0)), (mp_arL E q4 60 (fun _ => 0)), (mp_arI E q5 1 1600 (fun _ => 0))]
  show mp_W E X 2 49 [(0, .ref h0)] [] w7_ 5 1908
  refine mp_run mp_k_cX10_init_ok hF mp_tabX10_ok [mp_i (.aload_n 0), mp_c (.iconst 5) 5, mp_h (.newarray .int) [5], mp_h (.putfield 31) [16, 0]] (by decide +kernel) ?_
  refine And.intro (by decide) (And.intro (Nat.le_of_ble_eq_true rfl) (And.intro (Nat.le_of_ble_eq_true rfl) (And.intro (by decide) ?_)))
  intro q6
  refine And.intro rfl (And.intro rfl (And.intro rfl (And.intro rfl (And.intro (Nat.le_of_ble_eq_true rfl) ?_))))
  let w8_ : va_W := [(h0, .inr (10, [.int 0, .ref q1, .ref q2, .ref q3, .ref q4, .ref q5, .int 0, .int 0, .int 0, .int 0, .int 0, .long 0, .int 0, .int 0, .int 0, .int (-1), .ref q6, .null, .null, .null, .null, .null, .null, .null, .int 0, .null, .null, .null, .null, .int 0, .int 0, .int 0, .null, .null, .int 0, .int 0, .null, .null, .null, .int 0, .int 0, .int 0, .int 0, .null, .null, .null, .int 0])), (mp_arI E q1 0 4 (fun _ => 0)), (mp_arI E q2 0 4 (fun _ => 0)), (mp_arL E q3 240 (fun _ => 0)), (mp_arL E q4 60 (fun _ => 0)), (mp_arI E q5 1 1600 (fun _ => 0)), (mp_arI E q6 0 5 (fun _ => 0))]
  show mp_W E X 2 56 [(0, .ref h0)] [] w8_ 6 1913
  refine mp_run mp_k_cX10_init_ok hF mp_tabX10_ok [mp_i (.aload_n 0), mp_c (.bipush 25) 25, mp_h (.newarray .int) [25], mp_h (.putfield 34) [17, 0]] (by decide +kernel) ?_
  refine And.intro (by decide) (And.intro (Nat.le_of_ble_eq_true rfl) (And.intro (Nat.le_of_ble_eq_true rfl) (And.intro (by decide) ?_)))
  intro q7
  refine And.intro rfl (And.intro rfl (And.intro rfl (And.intro rfl (And.intro (Nat.le_of_ble_eq_true rfl) ?_))))
  let w9_ : va_W := [(h0, .inr (10, [.int 0, .ref q1, .ref q2, .ref q3, .ref q4, .ref q5, .int 0, .int 0, .int 0, .int 0, .int 0, .long 0, .int 0, .int 0, .int 0, .int (-1), .ref q6, .ref q7, .null, .null, .null, .null, .null, .null, .int 0, .null, .null, .null, .null, .int 0, .int 0, .int 0, .null, .null, .int 0, .int 0, .null, .null, .null, .int 0, .int 0, .int 0, .int 0, .null, .null, .null, .int 0])), (mp_arI E q1 0 4 (fun _ => 0)), (mp_arI E q2 0 4 (fun _ => 0)), (mp_arL E q3 240 (fun _ => 0)), (mp_arL E q4 60 (fun _ => 0)), (mp_arI E q5 1 1600 (fun _ => 0)), (mp_arI E q6 0 5 (fun _ => 0)), (mp_arI E q7 0 25 (fun _ => 0))]
  show mp_W E X 2 64 [(0, .ref h0)] [] w9_ 7 1938
  refine mp_run mp_k_cX10_init_ok hF mp_tabX10_ok [mp_i (.aload_n 0), mp_c (.sipush 180) 180, mp_h (.newarray .int) [180], mp_h (.putfield 37) [18, 0]] (by decide +kernel) ?_
  refine And.intro (by decide) (And.intro (Nat.le_of_ble_eq_true rfl) (And.intro (Nat.le_of_ble_eq_true rfl) (And.intro (by decide) ?_)))
  intro q8
  refine And.intro rfl (And.intro rfl (And.intro rfl (And.intro rfl (And.intro (Nat.le_of_ble_eq_true rfl) ?_))))
  let w10_ : va_W := [(h0, .inr (10, [.int 0, .ref q1, .ref q2, .ref q3, .ref q4, .ref q5, .int 0, .int 0, .int 0, .int 0, .int 0, .long 0, .int 0, .int 0, .int 0, .int (-1), .ref q6, .ref q7, .ref q8, .null, .null, .null, .null, .null, .int 0, .null, .null, .null, .null, .int 0, .int 0, .int 0, .null, .null, .int 0, .int 0, .null, .null, .null, .int 0, .int 0, .int 0, .int 0, .null, .null, .null, .int 0])), (mp_arI E q1 0 4 (fun _ => 0)), (mp_arI E q2 0 4 (fun _ => 0)), (mp_arL E q3 240 (fun _ => 0)), (mp_arL E q4 60 (fun _ => 0)), (mp_arI E q5 1 1600 (fun _ => 0)), (mp_arI E q6 0 5 (fun _ => 0)), (mp_arI E q7 0 25 (fun _ => 0)), (mp_arI E q8 0 180 (fun _ => 0))]
  show mp_W E X 2 73 [(0, .ref h0)] [] w10_ 8 2118
  refine mp_run mp_k_cX10_init_ok hF mp_tabX10_ok [mp_i (.aload_n 0), mp_c (.sipush 3000) 3000, mp_h (.newarray .boolean) [3000], mp_h (.putfield 40) [19, 0]] (by decide +kernel) ?_
  refine And.intro (by decide) (And.intro (Nat.le_of_ble_eq_true rfl) (And.intro (Nat.le_of_ble_eq_true rfl) (And.intro (by decide) ?_)))
  intro q9
  refine And.intro rfl (And.intro rfl (And.intro rfl (And.intro rfl (And.intro (Nat.le_of_ble_eq_true rfl) ?_))))
  let w11_ : va_W := [(h0, .inr (10, [.int 0, .ref q1, .ref q2, .ref q3, .ref q4, .ref q5, .int 0, .int 0, .int 0, .int 0, .int 0, .long 0, .int 0, .int 0, .int 0, .int (-1), .ref q6, .ref q7, .ref q8, .ref q9, .null, .null, .null, .null, .int 0, .null, .null, .null, .null, .int 0, .int 0, .int 0, .null, .null, .int 0, .int 0, .null, .null, .null, .int 0, .int 0, .int 0, .int 0, .null, .null, .null, .int 0])), (mp_arI E q1 0 4 (fun _ => 0)), (mp_arI E q2 0 4 (fun _ => 0)), (mp_arL E q3 240 (fun _ => 0)), (mp_arL E q4 60 (fun _ => 0)), (mp_arI E q5 1 1600 (fun _ => 0)), (mp_arI E q6 0 5 (fun _ => 0)), (mp_arI E q7 0 25 (fun _ => 0)), (mp_arI E q8 0 180 (fun _ => 0)), (mp_arI E q9 3 3000 (fun _ => 0))]
  show mp_W E X 2 82 [(0, .ref h0)] [] w11_ 9 5118
  refine mp_run mp_k_cX10_init_ok hF mp_tabX10_ok [mp_i (.aload_n 0), mp_c (.bipush 90) 90, mp_h (.newarray .int) [90], mp_h (.putfield 44) [20, 0]] (by decide +kernel) ?_
  refine And.intro (by decide) (And.intro (Nat.le_of_ble_eq_true rfl) (And.intro (Nat.le_of_ble_eq_true rfl) (And.intro (by decide) ?_)))
  intro q10
  refine And.intro rfl (And.intro rfl (And.intro rfl (And.intro rfl (And.intro (Nat.le_of_ble_eq_true rfl) ?_))))
  let w12_ : va_W := [(h0, .inr (10, [.int 0, .ref q1, .ref q2, .ref q3, .ref q4, .ref q5, .int 0, .int 0, .int 0, .int 0, .int 0, .long 0, .int 0, .int 0, .int 0, .int (-1), .ref q6, .ref q7, .ref q8, .ref q9, .ref q10, .null, .null, .null, .int 0, .null, .null, .null, .null, .int 0, .int 0, .int 0, .null, .null, .int 0, .int 0, .null, .null, .null, .int 0, .int 0, .int 0, .int 0, .null, .null, .null, .int 0])), (mp_arI E q1 0 4 (fun _ => 0)), (mp_arI E q2 0 4 (fun _ => 0)), (mp_arL E q3 240 (fun _ => 0)), (mp_arL E q4 60 (fun _ => 0)), (mp_arI E q5 1 1600 (fun _ => 0)), (mp_arI E q6 0 5 (fun _ => 0)), (mp_arI E q7 0 25 (fun _ => 0)), (mp_arI E q8 0 180 (fun _ => 0)), (mp_arI E q9 3 3000 (fun _ => 0)), (mp_arI E q10 0 90 (fun _ => 0))]
  show mp_W E X 2 90 [(0, .ref h0)] [] w12_ 10 5208
  refine mp_run mp_k_cX10_init_ok hF mp_tabX10_ok [mp_i (.aload_n 0), mp_c (.sipush 300) 300, mp_h (.newarray .int) [300], mp_h (.putfield 47) [21, 0]] (by decide +kernel) ?_
  refine And.intro (by decide) (And.intro (Nat.le_of_ble_eq_true rfl) (And.intro (Nat.le_of_ble_eq_true rfl) (And.intro (by decide) ?_)))
  intro q11
  refine And.intro rfl (And.intro rfl (And.intro rfl (And.intro rfl (And.intro (Nat.le_of_ble_eq_true rfl) ?_))))
  let w13_ : va_W := [(h0, .inr (10, [.int 0, .ref q1, .ref q2, .ref q3, .ref q4, .ref q5, .int 0, .int 0, .int 0, .int 0, .int 0, .long 0, .int 0, .int 0, .int 0, .int (-1), .ref q6, .ref q7, .ref q8, .ref q9, .ref q10, .ref q11, .null, .null, .int 0, .null, .null, .null, .null, .int 0, .int 0, .int 0, .null, .null, .int 0, .int 0, .null, .null, .null, .int 0, .int 0, .int 0, .int 0, .null, .null, .null, .int 0])), (mp_arI E q1 0 4 (fun _ => 0)), (mp_arI E q2 0 4 (fun _ => 0)), (mp_arL E q3 240 (fun _ => 0)), (mp_arL E q4 60 (fun _ => 0)), (mp_arI E q5 1 1600 (fun _ => 0)), (mp_arI E q6 0 5 (fun _ => 0)), (mp_arI E q7 0 25 (fun _ => 0)), (mp_arI E q8 0 180 (fun _ => 0)), (mp_arI E q9 3 3000 (fun _ => 0)), (mp_arI E q10 0 90 (fun _ => 0)), (mp_arI E q11 0 300 (fun _ => 0))]
  show mp_W E X 2 99 [(0, .ref h0)] [] w13_ 11 5508
  refine mp_run mp_k_cX10_init_ok hF mp_tabX10_ok [mp_i (.aload_n 0), mp_c (.sipush 300) 300, mp_h (.newarray .int) [300], mp_h (.putfield 50) [22, 0]] (by decide +kernel) ?_
  refine And.intro (by decide) (And.intro (Nat.le_of_ble_eq_true rfl) (And.intro (Nat.le_of_ble_eq_true rfl) (And.intro (by decide) ?_)))
  intro q12
  refine And.intro rfl (And.intro rfl (And.intro rfl (And.intro rfl (And.intro (Nat.le_of_ble_eq_true rfl) ?_))))
  let w14_ : va_W := [(h0, .inr (10, [.int 0, .ref q1, .ref q2, .ref q3, .ref q4, .ref q5, .int 0, .int 0, .int 0, .int 0, .int 0, .long 0, .int 0, .int 0, .int 0, .int (-1), .ref q6, .ref q7, .ref q8, .ref q9, .ref q10, .ref q11, .ref q12, .null, .int 0, .null, .null, .null, .null, .int 0, .int 0, .int 0, .null, .null, .int 0, .int 0, .null, .null, .null, .int 0, .int 0, .int 0, .int 0, .null, .null, .null, .int 0])), (mp_arI E q1 0 4 (fun _ => 0)), (mp_arI E q2 0 4 (fun _ => 0)), (mp_arL E q3 240 (fun _ => 0)), (mp_arL E q4 60 (fun _ => 0)), (mp_arI E q5 1 1600 (fun _ => 0)), (mp_arI E q6 0 5 (fun _ => 0)), (mp_arI E q7 0 25 (fun _ => 0)), (mp_arI E q8 0 180 (fun _ => 0)), (mp_arI E q9 3 3000 (fun _ => 0)), (mp_arI E q10 0 90 (fun _ => 0)), (mp_arI E q11 0 300 (fun _ => 0)), (mp_arI E q12 0 300 (fun _ => 0))]
  show mp_W E X 2 108 [(0, .ref h0)] [] w14_ 12 5808
  refine mp_run mp_k_cX10_init_ok hF mp_tabX10_ok [mp_i (.aload_n 0), mp_c (.iconst 3) 3, mp_h (.newarray .boolean) [3], mp_h (.putfield 53) [23, 0]] (by decide +kernel) ?_
  refine And.intro (by decide) (And.intro (Nat.le_of_ble_eq_true rfl) (And.intro (Nat.le_of_ble_eq_true rfl) (And.intro (by decide) ?_)))
  intro q13
  refine And.intro rfl (And.intro rfl (And.intro rfl (And.intro rfl (And.intro (Nat.le_of_ble_eq_true rfl) ?_))))
  let w15_ : va_W := [(h0, .inr (10, [.int 0, .ref q1, .ref q2, .ref q3, .ref q4, .ref q5, .int 0, .int 0, .int 0, .int 0, .int 0, .long 0, .int 0, .int 0, .int 0, .int (-1), .ref q6, .ref q7, .ref q8, .ref q9, .ref q10, .ref q11, .ref q12, .ref q13, .int 0, .null, .null, .null, .null, .int 0, .int 0, .int 0, .null, .null, .int 0, .int 0, .null, .null, .null, .int 0, .int 0, .int 0, .int 0, .null, .null, .null, .int 0])), (mp_arI E q1 0 4 (fun _ => 0)), (mp_arI E q2 0 4 (fun _ => 0)), (mp_arL E q3 240 (fun _ => 0)), (mp_arL E q4 60 (fun _ => 0)), (mp_arI E q5 1 1600 (fun _ => 0)), (mp_arI E q6 0 5 (fun _ => 0)), (mp_arI E q7 0 25 (fun _ => 0)), (mp_arI E q8 0 180 (fun _ => 0)), (mp_arI E q9 3 3000 (fun _ => 0)), (mp_arI E q10 0 90 (fun _ => 0)), (mp_arI E q11 0 300 (fun _ => 0)), (mp_arI E q12 0 300 (fun _ => 0)), (mp_arI E q13 3 3 (fun _ => 0))]
  show mp_W E X 2 115 [(0, .ref h0)] [] w15_ 13 5811
  refine mp_run mp_k_cX10_init_ok hF mp_tabX10_ok [mp_i (.aload_n 0), mp_c (.bipush 6) 6, mp_h (.newarray .int) [6], mp_h (.putfield 56) [25, 0]] (by decide +kernel) ?_
  refine And.intro (by decide) (And.intro (Nat.le_of_ble_eq_true rfl) (And.intro (Nat.le_of_ble_eq_true rfl) (And.intro (by decide) ?_)))
  intro q14
  refine And.intro rfl (And.intro rfl (And.intro rfl (And.intro rfl (And.intro (Nat.le_of_ble_eq_true rfl) ?_))))
  let w16_ : va_W := [(h0, .inr (10, [.int 0, .ref q1, .ref q2, .ref q3, .ref q4, .ref q5, .int 0, .int 0, .int 0, .int 0, .int 0, .long 0, .int 0, .int 0, .int 0, .int (-1), .ref q6, .ref q7, .ref q8, .ref q9, .ref q10, .ref q11, .ref q12, .ref q13, .int 0, .ref q14, .null, .null, .null, .int 0, .int 0, .int 0, .null, .null, .int 0, .int 0, .null, .null, .null, .int 0, .int 0, .int 0, .int 0, .null, .null, .null, .int 0])), (mp_arI E q1 0 4 (fun _ => 0)), (mp_arI E q2 0 4 (fun _ => 0)), (mp_arL E q3 240 (fun _ => 0)), (mp_arL E q4 60 (fun _ => 0)), (mp_arI E q5 1 1600 (fun _ => 0)), (mp_arI E q6 0 5 (fun _ => 0)), (mp_arI E q7 0 25 (fun _ => 0)), (mp_arI E q8 0 180 (fun _ => 0)), (mp_arI E q9 3 3000 (fun _ => 0)), (mp_arI E q10 0 90 (fun _ => 0)), (mp_arI E q11 0 300 (fun _ => 0)), (mp_arI E q12 0 300 (fun _ => 0)), (mp_arI E q13 3 3 (fun _ => 0)), (mp_arI E q14 0 6 (fun _ => 0))]
  show mp_W E X 2 123 [(0, .ref h0)] [] w16_ 14 5817
  refine mp_run mp_k_cX10_init_ok hF mp_tabX10_ok [mp_i (.aload_n 0), mp_c (.bipush 6) 6, mp_h (.newarray .int) [6], mp_h (.putfield 59) [26, 0]] (by decide +kernel) ?_
  refine And.intro (by decide) (And.intro (Nat.le_of_ble_eq_true rfl) (And.intro (Nat.le_of_ble_eq_true rfl) (And.intro (by decide) ?_)))
  intro q15
  refine And.intro rfl (And.intro rfl (And.intro rfl (And.intro rfl (And.intro (Nat.le_of_ble_eq_true rfl) ?_))))
  let w17_ : va_W := [(h0, .inr (10, [.int 0, .ref q1, .ref q2, .ref q3, .ref q4, .ref q5, .int 0, .int 0, .int 0, .int 0, .int 0, .long 0, .int 0, .int 0, .int 0, .int (-1), .ref q6, .ref q7, .ref q8, .ref q9, .ref q10, .ref q11, .ref q12, .ref q13, .int 0, .ref q14, .ref q15, .null, .null, .int 0, .int 0, .int 0, .null, .null, .int 0, .int 0, .null, .null, .null, .int 0, .int 0, .int 0, .int 0, .null, .null, .null, .int 0])), (mp_arI E q1 0 4 (fun _ => 0)), (mp_arI E q2 0 4 (fun _ => 0)), (mp_arL E q3 240 (fun _ => 0)), (mp_arL E q4 60 (fun _ => 0)), (mp_arI E q5 1 1600 (fun _ => 0)), (mp_arI E q6 0 5 (fun _ => 0)), (mp_arI E q7 0 25 (fun _ => 0)), (mp_arI E q8 0 180 (fun _ => 0)), (mp_arI E q9 3 3000 (fun _ => 0)), (mp_arI E q10 0 90 (fun _ => 0)), (mp_arI E q11 0 300 (fun _ => 0)), (mp_arI E q12 0 300 (fun _ => 0)), (mp_arI E q13 3 3 (fun _ => 0)), (mp_arI E q14 0 6 (fun _ => 0)), (mp_arI E q15 0 6 (fun _ => 0))]
  show mp_W E X 2 131 [(0, .ref h0)] [] w17_ 15 5823
  refine mp_run mp_k_cX10_init_ok hF mp_tabX10_ok [mp_i (.aload_n 0), mp_c (.bipush 6) 6, mp_h (.newarray .int) [6], mp_h (.putfield 62) [27, 0]] (by decide +kernel) ?_
  refine And.intro (by decide) (And.intro (Nat.le_of_ble_eq_true rfl) (And.intro (Nat.le_of_ble_eq_true rfl) (And.intro (by decide) ?_)))
  intro q16
  refine And.intro rfl (And.intro rfl (And.intro rfl (And.intro rfl (And.intro (Nat.le_of_ble_eq_true rfl) ?_))))
  let w18_ : va_W := [(h0, .inr (10, [.int 0, .ref q1, .ref q2, .ref q3, .ref q4, .ref q5, .int 0, .int 0, .int 0, .int 0, .int 0, .long 0, .int 0, .int 0, .int 0, .int (-1), .ref q6, .ref q7, .ref q8, .ref q9, .ref q10, .ref q11, .ref q12, .ref q13, .int 0, .ref q14, .ref q15, .ref q16, .null, .int 0, .int 0, .int 0, .null, .null, .int 0, .int 0, .null, .null, .null, .int 0, .int 0, .int 0, .int 0, .null, .null, .null, .int 0])), (mp_arI E q1 0 4 (fun _ => 0)), (mp_arI E q2 0 4 (fun _ => 0)), (mp_arL E q3 240 (fun _ => 0)), (mp_arL E q4 60 (fun _ => 0)), (mp_arI E q5 1 1600 (fun _ => 0)), (mp_arI E q6 0 5 (fun _ => 0)), (mp_arI E q7 0 25 (fun _ => 0)), (mp_arI E q8 0 180 (fun _ => 0)), (mp_arI E q9 3 3000 (fun _ => 0)), (mp_arI E q10 0 90 (fun _ => 0)), (mp_arI E q11 0 300 (fun _ => 0)), (mp_arI E q12 0 300 (fun _ => 0)), (mp_arI E q13 3 3 (fun _ => 0)), (mp_arI E q14 0 6 (fun _ => 0)), (mp_arI E q15 0 6 (fun _ => 0)), (mp_arI E q16 0 6 (fun _ => 0))]
  show mp_W E X 2 139 [(0, .ref h0)] [] w18_ 16 5829
  refine mp_run mp_k_cX10_init_ok hF mp_tabX10_ok [mp_i (.aload_n 0), mp_c (.sipush 1500) 1500, mp_h (.newarray .boolean) [1500], mp_h (.putfield 65) [28, 0]] (by decide +kernel) ?_
  refine And.intro (by decide) (And.intro (Nat.le_of_ble_eq_true rfl) (And.intro (Nat.le_of_ble_eq_true rfl) (And.intro (by decide) ?_)))
  intro q17
  refine And.intro rfl (And.intro rfl (And.intro rfl (And.intro rfl (And.intro (Nat.le_of_ble_eq_true rfl) ?_))))
  let w19_ : va_W := [(h0, .inr (10, [.int 0, .ref q1, .ref q2, .ref q3, .ref q4, .ref q5, .int 0, .int 0, .int 0, .int 0, .int 0, .long 0, .int 0, .int 0, .int 0, .int (-1), .ref q6, .ref q7, .ref q8, .ref q9, .ref q10, .ref q11, .ref q12, .ref q13, .int 0, .ref q14, .ref q15, .ref q16, .ref q17, .int 0, .int 0, .int 0, .null, .null, .int 0, .int 0, .null, .null, .null, .int 0, .int 0, .int 0, .int 0, .null, .null, .null, .int 0])), (mp_arI E q1 0 4 (fun _ => 0)), (mp_arI E q2 0 4 (fun _ => 0)), (mp_arL E q3 240 (fun _ => 0)), (mp_arL E q4 60 (fun _ => 0)), (mp_arI E q5 1 1600 (fun _ => 0)), (mp_arI E q6 0 5 (fun _ => 0)), (mp_arI E q7 0 25 (fun _ => 0)), (mp_arI E q8 0 180 (fun _ => 0)), (mp_arI E q9 3 3000 (fun _ => 0)), (mp_arI E q10 0 90 (fun _ => 0)), (mp_arI E q11 0 300 (fun _ => 0)), (mp_arI E q12 0 300 (fun _ => 0)), (mp_arI E q13 3 3 (fun _ => 0)), (mp_arI E q14 0 6 (fun _ => 0)), (mp_arI E q15 0 6 (fun _ => 0)), (mp_arI E q16 0 6 (fun _ => 0)), (mp_arI E q17 3 1500 (fun _ => 0))]
  show mp_W E X 2 148 [(0, .ref h0)] [] w19_ 17 7329
  refine mp_run mp_k_cX10_init_ok hF mp_tabX10_ok [mp_i (.aload_n 0), mp_c (.bipush 78) 78, mp_h (.newarray .int) [78], mp_h (.putfield 68) [32, 0]] (by decide +kernel) ?_
  refine And.intro (by decide) (And.intro (Nat.le_of_ble_eq_true rfl) (And.intro (Nat.le_of_ble_eq_true rfl) (And.intro (by decide) ?_)))
  intro q18
  refine And.intro rfl (And.intro rfl (And.intro rfl (And.intro rfl (And.intro (Nat.le_of_ble_eq_true rfl) ?_))))
  let w20_ : va_W := [(h0, .inr (10, [.int 0, .ref q1, .ref q2, .ref q3, .ref q4, .ref q5, .int 0, .int 0, .int 0, .int 0, .int 0, .long 0, .int 0, .int 0, .int 0, .int (-1), .ref q6, .ref q7, .ref q8, .ref q9, .ref q10, .ref q11, .ref q12, .ref q13, .int 0, .ref q14, .ref q15, .ref q16, .ref q17, .int 0, .int 0, .int 0, .ref q18, .null, .int 0, .int 0, .null, .null, .null, .int 0, .int 0, .int 0, .int 0, .null, .null, .null, .int 0])), (mp_arI E q1 0 4 (fun _ => 0)), (mp_arI E q2 0 4 (fun _ => 0)), (mp_arL E q3 240 (fun _ => 0)), (mp_arL E q4 60 (fun _ => 0)), (mp_arI E q5 1 1600 (fun _ => 0)), (mp_arI E q6 0 5 (fun _ => 0)), (mp_arI E q7 0 25 (fun _ => 0)), (mp_arI E q8 0 180 (fun _ => 0)), (mp_arI E q9 3 3000 (fun _ => 0)), (mp_arI E q10 0 90 (fun _ => 0)), (mp_arI E q11 0 300 (fun _ => 0)), (mp_arI E q12 0 300 (fun _ => 0)), (mp_arI E q13 3 3 (fun _ => 0)), (mp_arI E q14 0 6 (fun _ => 0)), (mp_arI E q15 0 6 (fun _ => 0)), (mp_arI E q16 0 6 (fun _ => 0)), (mp_arI E q17 3 1500 (fun _ => 0)), (mp_arI E q18 0 78 (fun _ => 0))]
  show mp_W E X 2 156 [(0, .ref h0)] [] w20_ 18 7407
  refine mp_run mp_k_cX10_init_ok hF mp_tabX10_ok [mp_i (.aload_n 0), mp_c (.bipush 78) 78, mp_h (.newarray .long) [78], mp_h (.putfield 71) [33, 0]] (by decide +kernel) ?_
  refine And.intro (by decide) (And.intro (Nat.le_of_ble_eq_true rfl) (And.intro (Nat.le_of_ble_eq_true rfl) (And.intro (by decide) ?_)))
  intro q19
  refine And.intro rfl (And.intro rfl (And.intro rfl (And.intro rfl (And.intro (Nat.le_of_ble_eq_true rfl) ?_))))
  let w21_ : va_W := [(h0, .inr (10, [.int 0, .ref q1, .ref q2, .ref q3, .ref q4, .ref q5, .int 0, .int 0, .int 0, .int 0, .int 0, .long 0, .int 0, .int 0, .int 0, .int (-1), .ref q6, .ref q7, .ref q8, .ref q9, .ref q10, .ref q11, .ref q12, .ref q13, .int 0, .ref q14, .ref q15, .ref q16, .ref q17, .int 0, .int 0, .int 0, .ref q18, .ref q19, .int 0, .int 0, .null, .null, .null, .int 0, .int 0, .int 0, .int 0, .null, .null, .null, .int 0])), (mp_arI E q1 0 4 (fun _ => 0)), (mp_arI E q2 0 4 (fun _ => 0)), (mp_arL E q3 240 (fun _ => 0)), (mp_arL E q4 60 (fun _ => 0)), (mp_arI E q5 1 1600 (fun _ => 0)), (mp_arI E q6 0 5 (fun _ => 0)), (mp_arI E q7 0 25 (fun _ => 0)), (mp_arI E q8 0 180 (fun _ => 0)), (mp_arI E q9 3 3000 (fun _ => 0)), (mp_arI E q10 0 90 (fun _ => 0)), (mp_arI E q11 0 300 (fun _ => 0)), (mp_arI E q12 0 300 (fun _ => 0)), (mp_arI E q13 3 3 (fun _ => 0)), (mp_arI E q14 0 6 (fun _ => 0)), (mp_arI E q15 0 6 (fun _ => 0)), (mp_arI E q16 0 6 (fun _ => 0)), (mp_arI E q17 3 1500 (fun _ => 0)), (mp_arI E q18 0 78 (fun _ => 0)), (mp_arL E q19 78 (fun _ => 0))]
  show mp_W E X 2 164 [(0, .ref h0)] [] w21_ 19 7485
  refine mp_run mp_k_cX10_init_ok hF mp_tabX10_ok [mp_i (.aload_n 0), mp_c (.bipush 6) 6, mp_h (.newarray .int) [6], mp_h (.putfield 74) [36, 0]] (by decide +kernel) ?_
  refine And.intro (by decide) (And.intro (Nat.le_of_ble_eq_true rfl) (And.intro (Nat.le_of_ble_eq_true rfl) (And.intro (by decide) ?_)))
  intro q20
  refine And.intro rfl (And.intro rfl (And.intro rfl (And.intro rfl (And.intro (Nat.le_of_ble_eq_true rfl) ?_))))
  let w22_ : va_W := [(h0, .inr (10, [.int 0, .ref q1, .ref q2, .ref q3, .ref q4, .ref q5, .int 0, .int 0, .int 0, .int 0, .int 0, .long 0, .int 0, .int 0, .int 0, .int (-1), .ref q6, .ref q7, .ref q8, .ref q9, .ref q10, .ref q11, .ref q12, .ref q13, .int 0, .ref q14, .ref q15, .ref q16, .ref q17, .int 0, .int 0, .int 0, .ref q18, .ref q19, .int 0, .int 0, .ref q20, .null, .null, .int 0, .int 0, .int 0, .int 0, .null, .null, .null, .int 0])), (mp_arI E q1 0 4 (fun _ => 0)), (mp_arI E q2 0 4 (fun _ => 0)), (mp_arL E q3 240 (fun _ => 0)), (mp_arL E q4 60 (fun _ => 0)), (mp_arI E q5 1 1600 (fun _ => 0)), (mp_arI E q6 0 5 (fun _ => 0)), (mp_arI E q7 0 25 (fun _ => 0)), (mp_arI E q8 0 180 (fun _ => 0)), (mp_arI E q9 3 3000 (fun _ => 0)), (mp_arI E q10 0 90 (fun _ => 0)), (mp_arI E q11 0 300 (fun _ => 0)), (mp_arI E q12 0 300 (fun _ => 0)), (mp_arI E q13 3 3 (fun _ => 0)), (mp_arI E q14 0 6 (fun _ => 0)), (mp_arI E q15 0 6 (fun _ => 0)), (mp_arI E q16 0 6 (fun _ => 0)), (mp_arI E q17 3 1500 (fun _ => 0)), (mp_arI E q18 0 78 (fun _ => 0)), (mp_arL E q19 78 (fun _ => 0)), (mp_arI E q20 0 6 (fun _ => 0))]
  show mp_W E X 2 172 [(0, .ref h0)] [] w22_ 20 7491
  refine mp_run mp_k_cX10_init_ok hF mp_tabX10_ok [mp_i (.aload_n 0), mp_c (.bipush 6) 6, mp_h (.newarray .int) [6], mp_h (.putfield 77) [37, 0]] (by decide +kernel) ?_
  refine And.intro (by decide) (And.intro (Nat.le_of_ble_eq_true rfl) (And.intro (Nat.le_of_ble_eq_true rfl) (And.intro (by decide) ?_)))
  intro q21
  refine And.intro rfl (And.intro rfl (And.intro rfl (And.intro rfl (And.intro (Nat.le_of_ble_eq_true rfl) ?_))))
  let w23_ : va_W := [(h0, .inr (10, [.int 0, .ref q1, .ref q2, .ref q3, .ref q4, .ref q5, .int 0, .int 0, .int 0, .int 0, .int 0, .long 0, .int 0, .int 0, .int 0, .int (-1), .ref q6, .ref q7, .ref q8, .ref q9, .ref q10, .ref q11, .ref q12, .ref q13, .int 0, .ref q14, .ref q15, .ref q16, .ref q17, .int 0, .int 0, .int 0, .ref q18, .ref q19, .int 0, .int 0, .ref q20, .ref q21, .null, .int 0, .int 0, .int 0, .int 0, .null, .null, .null, .int 0])), (mp_arI E q1 0 4 (fun _ => 0)), (mp_arI E q2 0 4 (fun _ => 0)), (mp_arL E q3 240 (fun _ => 0)), (mp_arL E q4 60 (fun _ => 0)), (mp_arI E q5 1 1600 (fun _ => 0)), (mp_arI E q6 0 5 (fun _ => 0)), (mp_arI E q7 0 25 (fun _ => 0)), (mp_arI E q8 0 180 (fun _ => 0)), (mp_arI E q9 3 3000 (fun _ => 0)), (mp_arI E q10 0 90 (fun _ => 0)), (mp_arI E q11 0 300 (fun _ => 0)), (mp_arI E q12 0 300 (fun _ => 0)), (mp_arI E q13 3 3 (fun _ => 0)), (mp_arI E q14 0 6 (fun _ => 0)), (mp_arI E q15 0 6 (fun _ => 0)), (mp_arI E q16 0 6 (fun _ => 0)), (mp_arI E q17 3 1500 (fun _ => 0)), (mp_arI E q18 0 78 (fun _ => 0)), (mp_arL E q19 78 (fun _ => 0)), (mp_arI E q20 0 6 (fun _ => 0)), (mp_arI E q21 0 6 (fun _ => 0))]
  show mp_W E X 2 180 [(0, .ref h0)] [] w23_ 21 7497
  refine mp_run mp_k_cX10_init_ok hF mp_tabX10_ok [mp_i (.aload_n 0), mp_c (.iconst 3) 3, mp_h (.newarray .int) [3], mp_h (.putfield 80) [38, 0]] (by decide +kernel) ?_
  refine And.intro (by decide) (And.intro (Nat.le_of_ble_eq_true rfl) (And.intro (Nat.le_of_ble_eq_true rfl) (And.intro (by decide) ?_)))
  intro q22
  refine And.intro rfl (And.intro rfl (And.intro rfl (And.intro rfl (And.intro (Nat.le_of_ble_eq_true rfl) ?_))))
  let w24_ : va_W := [(h0, .inr (10, [.int 0, .ref q1, .ref q2, .ref q3, .ref q4, .ref q5, .int 0, .int 0, .int 0, .int 0, .int 0, .long 0, .int 0, .int 0, .int 0, .int (-1), .ref q6, .ref q7, .ref q8, .ref q9, .ref q10, .ref q11, .ref q12, .ref q13, .int 0, .ref q14, .ref q15, .ref q16, .ref q17, .int 0, .int 0, .int 0, .ref q18, .ref q19, .int 0, .int 0, .ref q20, .ref q21, .ref q22, .int 0, .int 0, .int 0, .int 0, .null, .null, .null, .int 0])), (mp_arI E q1 0 4 (fun _ => 0)), (mp_arI E q2 0 4 (fun _ => 0)), (mp_arL E q3 240 (fun _ => 0)), (mp_arL E q4 60 (fun _ => 0)), (mp_arI E q5 1 1600 (fun _ => 0)), (mp_arI E q6 0 5 (fun _ => 0)), (mp_arI E q7 0 25 (fun _ => 0)), (mp_arI E q8 0 180 (fun _ => 0)), (mp_arI E q9 3 3000 (fun _ => 0)), (mp_arI E q10 0 90 (fun _ => 0)), (mp_arI E q11 0 300 (fun _ => 0)), (mp_arI E q12 0 300 (fun _ => 0)), (mp_arI E q13 3 3 (fun _ => 0)), (mp_arI E q14 0 6 (fun _ => 0)), (mp_arI E q15 0 6 (fun _ => 0)), (mp_arI E q16 0 6 (fun _ => 0)), (mp_arI E q17 3 1500 (fun _ => 0)), (mp_arI E q18 0 78 (fun _ => 0)), (mp_arL E q19 78 (fun _ => 0)), (mp_arI E q20 0 6 (fun _ => 0)), (mp_arI E q21 0 6 (fun _ => 0)), (mp_arI E q22 0 3 (fun _ => 0))]
  show mp_W E X 2 187 [(0, .ref h0)] [] w24_ 22 7500
  refine mp_run mp_k_cX10_init_ok hF mp_tabX10_ok [mp_i (.aload_n 0), mp_c (.bipush 12) 12, mp_h (.newarray .int) [12], mp_h (.putfield 83) [43, 0]] (by decide +kernel) ?_
  refine And.intro (by decide) (And.intro (Nat.le_of_ble_eq_true rfl) (And.intro (Nat.le_of_ble_eq_true rfl) (And.intro (by decide) ?_)))
  intro q23
  refine And.intro rfl (And.intro rfl (And.intro rfl (And.intro rfl (And.intro (Nat.le_of_ble_eq_true rfl) ?_))))
  let w25_ : va_W := [(h0, .inr (10, [.int 0, .ref q1, .ref q2, .ref q3, .ref q4, .ref q5, .int 0, .int 0, .int 0, .int 0, .int 0, .long 0, .int 0, .int 0, .int 0, .int (-1), .ref q6, .ref q7, .ref q8, .ref q9, .ref q10, .ref q11, .ref q12, .ref q13, .int 0, .ref q14, .ref q15, .ref q16, .ref q17, .int 0, .int 0, .int 0, .ref q18, .ref q19, .int 0, .int 0, .ref q20, .ref q21, .ref q22, .int 0, .int 0, .int 0, .int 0, .ref q23, .null, .null, .int 0])), (mp_arI E q1 0 4 (fun _ => 0)), (mp_arI E q2 0 4 (fun _ => 0)), (mp_arL E q3 240 (fun _ => 0)), (mp_arL E q4 60 (fun _ => 0)), (mp_arI E q5 1 1600 (fun _ => 0)), (mp_arI E q6 0 5 (fun _ => 0)), (mp_arI E q7 0 25 (fun _ => 0)), (mp_arI E q8 0 180 (fun _ => 0)), (mp_arI E q9 3 3000 (fun _ => 0)), (mp_arI E q10 0 90 (fun _ => 0)), (mp_arI E q11 0 300 (fun _ => 0)), (mp_arI E q12 0 300 (fun _ => 0)), (mp_arI E q13 3 3 (fun _ => 0)), (mp_arI E q14 0 6 (fun _ => 0)), (mp_arI E q15 0 6 (fun _ => 0)), (mp_arI E q16 0 6 (fun _ => 0)), (mp_arI E q17 3 1500 (fun _ => 0)), (mp_arI E q18 0 78 (fun _ => 0)), (mp_arL E q19 78 (fun _ => 0)), (mp_arI E q20 0 6 (fun _ => 0)), (mp_arI E q21 0 6 (fun _ => 0)), (mp_arI E q22 0 3 (fun _ => 0)), (mp_arI E q23 0 12 (fun _ => 0))]
  show mp_W E X 2 195 [(0, .ref h0)] [] w25_ 23 7512
  refine mp_run mp_k_cX10_init_ok hF mp_tabX10_ok [mp_i (.aload_n 0), mp_c (.bipush 12) 12, mp_h (.newarray .int) [12], mp_h (.putfield 86) [44, 0]] (by decide +kernel) ?_
  refine And.intro (by decide) (And.intro (Nat.le_of_ble_eq_true rfl) (And.intro (Nat.le_of_ble_eq_true rfl) (And.intro (by decide) ?_)))
  intro q24
  refine And.intro rfl (And.intro rfl (And.intro rfl (And.intro rfl (And.intro (Nat.le_of_ble_eq_true rfl) ?_))))
  let w26_ : va_W := [(h0, .inr (10, [.int 0, .ref q1, .ref q2, .ref q3, .ref q4, .ref q5, .int 0, .int 0, .int 0, .int 0, .int 0, .long 0, .int 0, .int 0, .int 0, .int (-1), .ref q6, .ref q7, .ref q8, .ref q9, .ref q10, .ref q11, .ref q12, .ref q13, .int 0, .ref q14, .ref q15, .ref q16, .ref q17, .int 0, .int 0, .int 0, .ref q18, .ref q19, .int 0, .int 0, .ref q20, .ref q21, .ref q22, .int 0, .int 0, .int 0, .int 0, .ref q23, .ref q24, .null, .int 0])), (mp_arI E q1 0 4 (fun _ => 0)), (mp_arI E q2 0 4 (fun _ => 0)), (mp_arL E q3 240 (fun _ => 0)), (mp_arL E q4 60 (fun _ => 0)), (mp_arI E q5 1 1600 (fun _ => 0)), (mp_arI E q6 0 5 (fun _ => 0)), (mp_arI E q7 0 25 (fun _ => 0)), (mp_arI E q8 0 180 (fun _ => 0)), (mp_arI E q9 3 3000 (fun _ => 0)), (mp_arI E q10 0 90 (fun _ => 0)), (mp_arI E q11 0 300 (fun _ => 0)), (mp_arI E q12 0 300 (fun _ => 0)), (mp_arI E q13 3 3 (fun _ => 0)), (mp_arI E q14 0 6 (fun _ => 0)), (mp_arI E q15 0 6 (fun _ => 0)), (mp_arI E q16 0 6 (fun _ => 0)), (mp_arI E q17 3 1500 (fun _ => 0)), (mp_arI E q18 0 78 (fun _ => 0)), (mp_arL E q19 78 (fun _ => 0)), (mp_arI E q20 0 6 (fun _ => 0)), (mp_arI E q21 0 6 (fun _ => 0)), (mp_arI E q22 0 3 (fun _ => 0)), (mp_arI E q23 0 12 (fun _ => 0)), (mp_arI E q24 0 12 (fun _ => 0))]
  show mp_W E X 2 203 [(0, .ref h0)] [] w26_ 24 7524
  refine mp_run mp_k_cX10_init_ok hF mp_tabX10_ok [mp_i (.aload_n 0), mp_c (.bipush 100) 100, mp_h (.newarray .int) [100], mp_h (.putfield 89) [45, 0]] (by decide +kernel) ?_
  refine And.intro (by decide) (And.intro (Nat.le_of_ble_eq_true rfl) (And.intro (Nat.le_of_ble_eq_true rfl) (And.intro (by decide) ?_)))
  intro q25
  refine And.intro rfl (And.intro rfl (And.intro rfl (And.intro rfl (And.intro (Nat.le_of_ble_eq_true rfl) ?_))))
  let w27_ : va_W := [(mp_ob10 h0 0 q1 q2 q3 q4 q5 0 0 0 0 0 0 0 0 0 (-1) q6 q7 q8 q9 q10 q11 q12 q13 0 q14 q15 q16 q17 0 0 0 q18 q19 0 0 q20 q21 q22 0 0 0 0 q23 q24 q25 0), (mp_arI E q1 0 4 (fun _ => 0)), (mp_arI E q2 0 4 (fun _ => 0)), (mp_arL E q3 240 (fun _ => 0)), (mp_arL E q4 60 (fun _ => 0)), (mp_arI E q5 1 1600 (fun _ => 0)), (mp_arI E q6 0 5 (fun _ => 0)), (mp_arI E q7 0 25 (fun _ => 0)), (mp_arI E q8 0 180 (fun _ => 0)), (mp_arI E q9 3 3000 (fun _ => 0)), (mp_arI E q10 0 90 (fun _ => 0)), (mp_arI E q11 0 300 (fun _ => 0)), (mp_arI E q12 0 300 (fun _ => 0)), (mp_arI E q13 3 3 (fun _ => 0)), (mp_arI E q14 0 6 (fun _ => 0)), (mp_arI E q15 0 6 (fun _ => 0)), (mp_arI E q16 0 6 (fun _ => 0)), (mp_arI E q17 3 1500 (fun _ => 0)), (mp_arI E q18 0 78 (fun _ => 0)), (mp_arL E q19 78 (fun _ => 0)), (mp_arI E q20 0 6 (fun _ => 0)), (mp_arI E q21 0 6 (fun _ => 0)), (mp_arI E q22 0 3 (fun _ => 0)), (mp_arI E q23 0 12 (fun _ => 0)), (mp_arI E q24 0 12 (fun _ => 0)), (mp_arI E q25 0 100 (fun _ => 0))]
  show mp_W E X 2 211 [(0, .ref h0)] [] w27_ 25 7624
  refine mp_run mp_k_cX10_init_ok hF mp_tabX10_ok [mp_c (.iconst 0) 0, mp_i (.istore_n 1), mp_i (.iload_n 1), mp_c (.iconst 4) 4, mp_h (.if_icmp .ge 16) [231]] (by decide +kernel) ?_
  refine And.intro (fun c26 => absurd c26 (by decide)) (fun _ => ?_)
  show mp_W E X 2 218 [(1, .int 0), (0, .ref h0)] [] w27_ 25 7624
  refine mp_run mp_k_cX10_init_ok hF mp_tabX10_ok [mp_i (.aload_n 0), mp_h (.getfield 7) [1, 0], mp_i (.iload_n 1), mp_c (.iconst (-1)) (-1), mp_h .iastore [1]] (by decide +kernel) ?_
  refine And.intro rfl (And.intro rfl ?_)
  refine And.intro rfl (And.intro rfl (And.intro (vp_in_iff.mpr (by decide)) ?_))
  intro g27 h28
  let w28_ : va_W := [(mp_ob10 h0 0 q1 q2 q3 q4 q5 0 0 0 0 0 0 0 0 0 (-1) q6 q7 q8 q9 q10 q11 q12 q13 0 q14 q15 q16 q17 0 0 0 q18 q19 0 0 q20 q21 q22 0 0 0 0 q23 q24 q25 0), (mp_arI E q1 0 4 g27), (mp_arI E q2 0 4 (fun _ => 0)), (mp_arL E q3 240 (fun _ => 0)), (mp_arL E q4 60 (fun _ => 0)), (mp_arI E q5 1 1600 (fun _ => 0)), (mp_arI E q6 0 5 (fun _ => 0)), (mp_arI E q7 0 25 (fun _ => 0)), (mp_arI E q8 0 180 (fun _ => 0)), (mp_arI E q9 3 3000 (fun _ => 0)), (mp_arI E q10 0 90 (fun _ => 0)), (mp_arI E q11 0 300 (fun _ => 0)), (mp_arI E q12 0 300 (fun _ => 0)), (mp_arI E q13 3 3 (fun _ => 0)), (mp_arI E q14 0 6 (fun _ => 0)), (mp_arI E q15 0 6 (fun _ => 0)), (mp_arI E q16 0 6 (fun _ => 0)), (mp_arI E q17 3 1500 (fun _ => 0)), (mp_arI E q18 0 78 (fun _ => 0)), (mp_arL E q19 78 (fun _ => 0)), (mp_arI E q20 0 6 (fun _ => 0)), (mp_arI E q21 0 6 (fun _ => 0)), (mp_arI E q22 0 3 (fun _ => 0)), (mp_arI E q23 0 12 (fun _ => 0)), (mp_arI E q24 0 12 (fun _ => 0)), (mp_arI E q25 0 100 (fun _ => 0))]
  show mp_W E X 2 225 [(1, .int 0), (0, .ref h0)] [] w28_ 25 7624
  refine mp_run mp_k_cX10_init_ok hF mp_tabX10_ok [mp_c (.iinc 1 1) 1, mp_h (.goto (-15)) [213], mp_i (.iload_n 1), mp_c (.iconst 4) 4, mp_h (.if_icmp .ge 16) [231]] (by decide +kernel) ?_
  intro z29 h30
  obtain rfl : z29 = 1 := h30.trans (by decide)
  refine And.intro (fun c31 => absurd c31 (by decide)) (fun _ => ?_)
  show mp_W E X 2 218 [(1, .int 1), (0, .ref h0)] [] w28_ 25 7624
  refine mp_run mp_k_cX10_init_ok hF mp_tabX10_ok [mp_i (.aload_n 0), mp_h (.getfield 7) [1, 0], mp_i (.iload_n 1), mp_c (.iconst (-1)) (-1), mp_h .iastore [1]] (by decide +kernel) ?_
  refine And.intro rfl (And.intro rfl ?_)
  refine And.intro rfl (And.intro rfl (And.intro (vp_in_iff.mpr (by decide)) ?_))
  intro g32 h33
  let w29_ : va_W := [(mp_ob10 h0 0 q1 q2 q3 q4 q5 0 0 0 0 0 0 0 0 0 (-1) q6 q7 q8 q9 q10 q11 q12 q13 0 q14 q15 q16 q17 0 0 0 q18 q19 0 0 q20 q21 q22 0 0 0 0 q23 q24 q25 0), (mp_arI E q1 0 4 g32), (mp_arI E q2 0 4 (fun _ => 0)), (mp_arL E q3 240 (fun _ => 0)), (mp_arL E q4 60 (fun _ => 0)), (mp_arI E q5 1 1600 (fun _ => 0)), (mp_arI E q6 0 5 (fun _ => 0)), (mp_arI E q7 0 25 (fun _ => 0)), (mp_arI E q8 0 180 (fun _ => 0)), (mp_arI E q9 3 3000 (fun _ => 0)), (mp_arI E q10 0 90 (fun _ => 0)), (mp_arI E q11 0 300 (fun _ => 0)), (mp_arI E q12 0 300 (fun _ => 0)), (mp_arI E q13 3 3 (fun _ => 0)), (mp_arI E q14 0 6 (fun _ => 0)), (mp_arI E q15 0 6 (fun _ => 0)), (mp_arI E q16 0 6 (fun _ => 0)), (mp_arI E q17 3 1500 (fun _ => 0)), (mp_arI E q18 0 78 (fun _ => 0)), (mp_arL E q19 78 (fun _ => 0)), (mp_arI E q20 0 6 (fun _ => 0)), (mp_arI E q21 0 6 (fun _ => 0)), (mp_arI E q22 0 3 (fun _ => 0)), (mp_arI E q23 0 12 (fun _ => 0)), (mp_arI E q24 0 12 (fun _ => 0)), (mp_arI E q25 0 100 (fun _ => 0))]
  show mp_W E X 2 225 [(1, .int 1), (0, .ref h0)] [] w29_ 25 7624
  refine mp_run mp_k_cX10_init_ok hF mp_tabX10_ok [mp_c (.iinc 1 1) 1, mp_h (.goto (-15)) [213], mp_i (.iload_n 1), mp_c (.iconst 4) 4, mp_h (.if_icmp .ge 16) [231]] (by decide +kernel) ?_
  intro z34 h35
  obtain rfl : z34 = 2 := h35.trans (by decide)
  refine And.intro (fun c36 => absurd c36 (by decide)) (fun _ => ?_)
  show mp_W E X 2 218 [(1, .int 2), (0, .ref h0)] [] w29_ 25 7624
  refine mp_run mp_k_cX10_init_ok hF mp_tabX10_ok [mp_i (.aload_n 0), mp_h (.getfield 7) [1, 0], mp_i (.iload_n 1), mp_c (.iconst (-1)) (-1), mp_h .iastore [1]] (by decide +kernel) ?_
  refine And.intro rfl (And.intro rfl ?_)
  refine And.intro rfl (And.intro rfl (And.intro (vp_in_iff.mpr (by decide)) ?_))
  intro g37 h38
  let w30_ : va_W := [(mp_ob10 h0 0 q1 q2 q3 q4 q5 0 0 0 0 0 0 0 0 0 (-1) q6 q7 q8 q9 q10 q11 q12 q13 0 q14 q15 q16 q17 0 0 0 q18 q19 0 0 q20 q21 q22 0 0 0 0 q23 q24 q25 0), (mp_arI E q1 0 4 g37), (mp_arI E q2 0 4 (fun _ => 0)), (mp_arL E q3 240 (fun _ => 0)), (mp_arL E q4 60 (fun _ => 0)), (mp_arI E q5 1 1600 (fun _ => 0)), (mp_arI E q6 0 5 (fun _ => 0)), (mp_arI E q7 0 25 (fun _ => 0)), (mp_arI E q8 0 180 (fun _ => 0)), (mp_arI E q9 3 3000 (fun _ => 0)), (mp_arI E q10 0 90 (fun _ => 0)), (mp_arI E q11 0 300 (fun _ => 0)), (mp_arI E q12 0 300 (fun _ => 0)), (mp_arI E q13 3 3 (fun _ => 0)), (mp_arI E q14 0 6 (fun _ => 0)), (mp_arI E q15 0 6 (fun _ => 0)), (mp_arI E q16 0 6 (fun _ => 0)), (mp_arI E q17 3 1500 (fun _ => 0)), (mp_arI E q18 0 78 (fun _ => 0)), (mp_arL E q19 78 (fun _ => 0)), (mp_arI E q20 0 6 (fun _ => 0)), (mp_arI E q21 0 6 (fun _ => 0)), (mp_arI E q22 0 3 (fun _ => 0)), (mp_arI E q23 0 12 (fun _ => 0)), (mp_arI E q24 0 12 (fun _ => 0)), (mp_arI E q25 0 100 (fun _ => 0))]
  show mp_W E X 2 225 [(1, .int 2), (0, .ref h0)] [] w30_ 25 7624
  refine mp_run mp_k_cX10_init_ok hF mp_tabX10_ok [mp_c (.iinc 1 1) 1, mp_h (.goto (-15)) [213], mp_i (.iload_n 1), mp_c (.iconst 4) 4, mp_h (.if_icmp .ge 16) [231]] (by decide +kernel) ?_
  intro z39 h40
  obtain rfl : z39 = 3 := h40.trans (by decide)
  refine And.intro (fun c41 => absurd c41 (by decide)) (fun _ => ?_)
  show mp_W E X 2 218 [(1, .int 3), (0, .ref h0)] [] w30_ 25 7624
  refine mp_run mp_k_cX10_init_ok hF mp_tabX10_ok [mp_i (.aload_n 0), mp_h (.getfield 7) [1, 0], mp_i (.iload_n 1), mp_c (.iconst (-1)) (-1), mp_h .iastore [1]] (by decide +kernel) ?_
  refine And.intro rfl (And.intro rfl ?_)
  refine And.intro rfl (And.intro rfl (And.intro (vp_in_iff.mpr (by decide)) ?_))
  intro g42 h43
  let w31_ : va_W := [(mp_ob10 h0 0 q1 q2 q3 q4 q5 0 0 0 0 0 0 0 0 0 (-1) q6 q7 q8 q9 q10 q11 q12 q13 0 q14 q15 q16 q17 0 0 0 q18 q19 0 0 q20 q21 q22 0 0 0 0 q23 q24 q25 0), (mp_arI E q1 0 4 g42), (mp_arI E q2 0 4 (fun _ => 0)), (mp_arL E q3 240 (fun _ => 0)), (mp_arL E q4 60 (fun _ => 0)), (mp_arI E q5 1 1600 (fun _ => 0)), (mp_arI E q6 0 5 (fun _ => 0)), (mp_arI E q7 0 25 (fun _ => 0)), (mp_arI E q8 0 180 (fun _ => 0)), (mp_arI E q9 3 3000 (fun _ => 0)), (mp_arI E q10 0 90 (fun _ => 0)), (mp_arI E q11 0 300 (fun _ => 0)), (mp_arI E q12 0 300 (fun _ => 0)), (mp_arI E q13 3 3 (fun _ => 0)), (mp_arI E q14 0 6 (fun _ => 0)), (mp_arI E q15 0 6 (fun _ => 0)), (mp_arI E q16 0 6 (fun _ => 0)), (mp_arI E q17 3 1500 (fun _ => 0)), (mp_arI E q18 0 78 (fun _ => 0)), (mp_arL E q19 78 (fun _ => 0)), (mp_arI E q20 0 6 (fun _ => 0)), (mp_arI E q21 0 6 (fun _ => 0)), (mp_arI E q22 0 3 (fun _ => 0)), (mp_arI E q23 0 12 (fun _ => 0)), (mp_arI E q24 0 12 (fun _ => 0)), (mp_arI E q25 0 100 (fun _ => 0))]
  show mp_W E X 2 225 [(1, .int 3), (0, .ref h0)] [] w31_ 25 7624
  refine mp_run mp_k_cX10_init_ok hF mp_tabX10_ok [mp_c (.iinc 1 1) 1, mp_h (.goto (-15)) [213], mp_i (.iload_n 1), mp_c (.iconst 4) 4, mp_h (.if_icmp .ge 16) [231]] (by decide +kernel) ?_
  intro z44 h45
  obtain rfl : z44 = 4 := h45.trans (by decide)
  refine And.intro (fun _ => ?_) (fun c46 => absurd c46 (by decide))
  show mp_W E X 2 231 [(1, .int 4), (0, .ref h0)] [] w31_ 25 7624
  exact mp_vret hF hQ rfl (Nat.le_of_ble_eq_true rfl) (Nat.le_of_ble_eq_true rfl) [0, 1, 2, 3, 4, 5, 6, 7, 8, 9, 10, 11, 12, 13, 14, 15, 16, 17, 18, 19, 20, 21, 22, 23, 24, 25] (w' := w31_) rfl rfl ⟨rfl, fun k => ([h0, q1, q2, q3, q4, q5, q6, q7, q8, q9, q10, q11, q12, q13, q14, q15, q16, q17, q18, q19, q20, q21, q22, q23, q24, q25] : List Nat).getD k 0, g42, rfl, (by intro j hj; rw [h43, h38, h33, h28]; have h9 : j = 0 ∨ j = 1 ∨ j = 2 ∨ j = 3 := (by (first | exact mp_o2171 hj | omega)); rcases h9 with rfl | rfl | rfl | rfl <;> rfl), rfl⟩ (by first | exact mp_fd_ok mp_k_cX10_init_ok (by decide +kernel) | decide +kernel)

set_option maxHeartbeats 4000000 in
set_option maxRecDepth 100000 in
theorem k_Main (E : mp_E) (h0 : Nat) : mp_Ct E yX9_init cX9_init 1 none 3 57 3761 52 [.ref h0] [(h0, .inr (9, [.null, .null, .null, .null, .null, .null, .null, .null, .null]))] (fun v w' => v = none ∧ ∃ b : Nat → Nat, ∃ (vs ln : Nat → Int32), b 0 = h0 ∧ (∀ j, j < 4 → ln j = -1) ∧ w' = [(mp_ob9 h0 (b 1) (b 16) (b 36) (b 37) (b 40) (b 46) (b 49) (b 52) (b 54)), (mp_ob3 (b 1) (b 2) 0 (b 3) 0 (-1) 0 0 0 0 0), (mp_arI E (b 2) 1 1600 (fun _ => 0)), (mp_ob7 (b 3) 0 0 0 0 0 0 (b 4) (b 5) (b 6) (b 7) (b 8) (b 9) (b 10) (b 11) (b 12) (b 13) (b 14) (b 15)), (mp_arI E (b 4) 0 36 (fun _ => 0)), (mp_arL E (b 5) 12 (fun _ => 0)), (mp_arI E (b 6) 0 6 (fun _ => 0)), (mp_arI E (b 7) 0 6 (fun _ => 0)), (mp_arI E (b 8) 0 6 (fun _ => 0)), (mp_arI E (b 9) 0 10 (fun _ => 0)), (mp_arI E (b 10) 0 10 (fun _ => 0)), (mp_arI E (b 11) 0 10 (fun _ => 0)), (mp_arI E (b 12) 0 10 (fun _ => 0)), (mp_arI E (b 13) 0 10 (fun _ => 0)), (mp_arI E (b 14) 0 10 (fun _ => 0)), (mp_arI E (b 15) 0 60 (fun _ => 0)), (mp_ob0 (b 16) (b 17) 0 (b 30) (b 31) (b 32) (b 33) (b 34) (b 35)), (mp_ob7 (b 17) 0 0 0 0 0 0 (b 18) (b 19) (b 20) (b 21) (b 22) (b 23) (b 24) (b 25) (b 26) (b 27) (b 28) (b 29)), (mp_arI E (b 18) 0 36 (fun _ => 0)), (mp_arL E (b 19) 12 (fun _ => 0)), (mp_arI E (b 20) 0 6 (fun _ => 0)), (mp_arI E (b 21) 0 6 (fun _ => 0)), (mp_arI E (b 22) 0 6 (fun _ => 0)), (mp_arI E (b 23) 0 10 (fun _ => 0)), (mp_arI E (b 24) 0 10 (fun _ => 0)), (mp_arI E (b 25) 0 10 (fun _ => 0)), (mp_arI E (b 26) 0 10 (fun _ => 0)), (mp_arI E (b 27) 0 10 (fun _ => 0)), (mp_arI E (b 28) 0 10 (fun _ => 0)), (mp_arI E (b 29) 0 60 (fun _ => 0)), (mp_arI E (b 30) 0 6 (fun _ => 0)), (mp_arI E (b 31) 0 6 (fun _ => 0)), (mp_arI E (b 32) 0 6 (fun _ => 0)), (mp_arL E (b 33) 20 (fun _ => 0)), (mp_arI E (b 34) 0 10 (fun _ => 0)), (mp_arI E (b 35) 0 10 (fun _ => 0)), ((b 36), .inl (E.2.2 4, 3, .inr (.inr (.inr (.inr (fun _ => none)))))), (mp_ob1 (b 37) (b 38) 0 0 (b 39)), (mp_arI E (b 38) 0 36 (fun _ => 0)), (mp_arI E (b 39) 0 3 (fun _ => 0)), (mp_ob2 (b 40) 0 0 0 0 (b 41) (b 42) (b 43) (b 44) (b 45) 0 0), (mp_arI E (b 41) 0 432 (fun _ => 0)), (mp_arI E (b 42) 0 432 (fun _ => 0)), (mp_arI E (b 43) 0 72 (fun _ => 0)), (mp_arI E (b 44) 0 78 (fun _ => 0)), (mp_arL E (b 45) 78 (fun _ => 0)), (mp_ob4 (b 46) 0 0 0 (b 47) 0 0 0 0 0 (b 48)), (mp_arI E (b 47) 0 11 (fun _ => 0)), (mp_arI E (b 48) 0 132 (fun _ => 0)), (mp_ob6 (b 49) 0 (b 50) (b 51)), (mp_arI E (b 50) 0 8 (fun _ => 0)), (mp_arI E (b 51) 0 100 vs), (mp_ob8 (b 52) (b 53) 0 0), (mp_arI E (b 53) 0 10 (fun _ => 0)), (mp_ob5 (b 54) (b 55) (b 56) (b 57)), (mp_arL E (b 55) 240 (fun _ => 0)), (mp_arI E (b 56) 0 4 (fun _ => 0)), (mp_arI E (b 57) 0 4 ln)]) := by
  refine mp_met true (by decide) (by decide) (Nat.le_of_ble_eq_true rfl) (fun X hF hQ => ?_)
  have hF : mp_F E X (RX9, cX9_init, 1, (3, 57, 3761, 52), none, true) := hF
  show mp_W E X 1 0 [(0, .ref h0)] [] [(h0, .inr (9, [.null, .null, .null, .null, .null, .null, .null, .null, .null]))] 0 0
  refine mp_run mp_k_cX9_init_ok hF mp_tabX9_ok [mp_i (.aload_n 0)] (by decide +kernel) ?_
  show mp_W E X 1 1 [(0, .ref h0)] [.ref h0] [(h0, .inr (9, [.null, .null, .null, .null, .null, .null, .null, .null, .null]))] 0 0
  refine mp_objInit hF (idx := 1) (mp_gm (j := 1026) (by decide +kernel)) ⟨(Nat.le_of_ble_eq_true rfl), (Nat.le_of_ble_eq_true rfl)⟩ (by first | exact mp_fd_ok mp_k_cX9_init_ok (by decide +kernel) | decide +kernel) ?_
  show mp_W E X 1 4 [(0, .ref h0)] [] [(h0, .inr (9, [.null, .null, .null, .null, .null, .null, .null, .null, .null]))] 0 0
  refine mp_run mp_k_cX9_init_ok hF mp_tabX9_ok [mp_i (.aload_n 0)] (by decide +kernel) ?_
  show mp_W E X 1 5 [(0, .ref h0)] [.ref h0] [(h0, .inr (9, [.null, .null, .null, .null, .null, .null, .null, .null, .null]))] 0 0
  refine mp_new hF (mp_lnX9_7) ⟨(Nat.le_of_ble_eq_true rfl), (Nat.le_of_ble_eq_true rfl)⟩ (by first | exact mp_fd_ok mp_k_cX9_init_ok (by decide +kernel) | decide +kernel) (fun q1 => ?_)
  let w1_ : va_W := [(h0, .inr (9, [.null, .null, .null, .null, .null, .null, .null, .null, .null])), (q1, .inr (3, [.null, .int 0, .null, .int 0, .int 0, .int 0, .int 0, .int 0, .int 0, .int 0]))]
  show mp_W E X 1 8 [(0, .ref h0)] [.ref q1, .ref h0] w1_ 1 10
  refine mp_run mp_k_cX9_init_ok hF mp_tabX9_ok [mp_i .dup] (by decide +kernel) ?_
  refine And.intro rfl ?_
  show mp_W E X 1 9 [(0, .ref h0)] [.ref q1, .ref q1, .ref h0] w1_ 1 10
  refine mp_callIN hF (As := []) (rest := [.ref q1, .ref h0]) (wr := [(h0, .inr (9, [.null, .null, .null, .null, .null, .null, .null, .null, .null]))]) (k_Reader E q1) rfl (mp_gm (j := 1032) (by decide +kernel)) mp_lkX9_9 [1] [0] rfl rfl rfl rfl rfl ⟨(Nat.le_of_ble_eq_true rfl), (Nat.le_of_ble_eq_true rfl), (Nat.le_of_ble_eq_true rfl), (Nat.le_of_ble_eq_true rfl)⟩ (Nat.le_of_ble_eq_true rfl) (by first | exact mp_fd_ok mp_k_cX9_init_ok (by decide +kernel) | decide +kernel) (fun v2 w3 h4 => ?_)
  obtain ⟨rfl, b5, h6, rfl⟩ := h4
  clear h6
  let w2_ : va_W := [(h0, .inr (9, [.null, .null, .null, .null, .null, .null, .null, .null, .null])), (mp_ob3 q1 (b5 1) 0 (b5 2) 0 (-1) 0 0 0 0 0), (mp_arI E (b5 1) 1 1600 (fun _ => 0)), (mp_ob7 (b5 2) 0 0 0 0 0 0 (b5 3) (b5 4) (b5 5) (b5 6) (b5 7) (b5 8) (b5 9) (b5 10) (b5 11) (b5 12) (b5 13) (b5 14)), (mp_arI E (b5 3) 0 36 (fun _ => 0)), (mp_arL E (b5 4) 12 (fun _ => 0)), (mp_arI E (b5 5) 0 6 (fun _ => 0)), (mp_arI E (b5 6) 0 6 (fun _ => 0)), (mp_arI E (b5 7) 0 6 (fun _ => 0)), (mp_arI E (b5 8) 0 10 (fun _ => 0)), (mp_arI E (b5 9) 0 10 (fun _ => 0)), (mp_arI E (b5 10) 0 10 (fun _ => 0)), (mp_arI E (b5 11) 0 10 (fun _ => 0)), (mp_arI E (b5 12) 0 10 (fun _ => 0)), (mp_arI E (b5 13) 0 10 (fun _ => 0)), (mp_arI E (b5 14) 0 60 (fun _ => 0))]
  show mp_W E X 1 12 [(0, .ref h0)] [.ref q1, .ref h0] w2_ 15 1814
  refine mp_run mp_k_cX9_init_ok hF mp_tabX9_ok [mp_h (.putfield 10) [36, 0]] (by decide +kernel) ?_
  refine And.intro rfl (And.intro rfl (And.intro rfl (And.intro rfl (And.intro (Nat.le_of_ble_eq_true rfl) ?_))))
  let w3_ : va_W := [(h0, .inr (9, [.ref q1, .null, .null, .null, .null, .null, .null, .null, .null])), (mp_ob3 q1 (b5 1) 0 (b5 2) 0 (-1) 0 0 0 0 0), (mp_arI E (b5 1) 1 1600 (fun _ => 0)), (mp_ob7 (b5 2) 0 0 0 0 0 0 (b5 3) (b5 4) (b5 5) (b5 6) (b5 7) (b5 8) (b5 9) (b5 10) (b5 11) (b5 12) (b5 13) (b5 14)), (mp_arI E (b5 3) 0 36 (fun _ => 0)), (mp_arL E (b5 4) 12 (fun _ => 0)), (mp_arI E (b5 5) 0 6 (fun _ => 0)), (mp_arI E (b5 6) 0 6 (fun _ => 0)), (mp_arI E (b5 7) 0 6 (fun _ => 0)), (mp_arI E (b5 8) 0 10 (fun _ => 0)), (mp_arI E (b5 9) 0 10 (fun _ => 0)), (mp_arI E (b5 10) 0 10 (fun _ => 0)), (mp_arI E (b5 11) 0 10 (fun _ => 0)), (mp_arI E (b5 12) 0 10 (fun _ => 0)), (mp_arI E (b5 13) 0 10 (fun _ => 0)), (mp_arI E (b5 14) 0 60 (fun _ => 0))]
  show mp_W E X 1 15 [(0, .ref h0)] [] w3_ 15 1814
  refine mp_run mp_k_cX9_init_ok hF mp_tabX9_ok [mp_i (.aload_n 0)] (by decide +kernel) ?_
  show mp_W E X 1 16 [(0, .ref h0)] [.ref h0] w3_ 15 1814
  refine mp_new hF (mp_lnX9_16) ⟨(Nat.le_of_ble_eq_true rfl), (Nat.le_of_ble_eq_true rfl)⟩ (by first | exact mp_fd_ok mp_k_cX9_init_ok (by decide +kernel) | decide +kernel) (fun q7 => ?_)
  let w4_ : va_W := [(h0, .inr (9, [.ref q1, .null, .null, .null, .null, .null, .null, .null, .null])), (mp_ob3 q1 (b5 1) 0 (b5 2) 0 (-1) 0 0 0 0 0), (mp_arI E (b5 1) 1 1600 (fun _ => 0)), (mp_ob7 (b5 2) 0 0 0 0 0 0 (b5 3) (b5 4) (b5 5) (b5 6) (b5 7) (b5 8) (b5 9) (b5 10) (b5 11) (b5 12) (b5 13) (b5 14)), (mp_arI E (b5 3) 0 36 (fun _ => 0)), (mp_arL E (b5 4) 12 (fun _ => 0)), (mp_arI E (b5 5) 0 6 (fun _ => 0)), (mp_arI E (b5 6) 0 6 (fun _ => 0)), (mp_arI E (b5 7) 0 6 (fun _ => 0)), (mp_arI E (b5 8) 0 10 (fun _ => 0)), (mp_arI E (b5 9) 0 10 (fun _ => 0)), (mp_arI E (b5 10) 0 10 (fun _ => 0)), (mp_arI E (b5 11) 0 10 (fun _ => 0)), (mp_arI E (b5 12) 0 10 (fun _ => 0)), (mp_arI E (b5 13) 0 10 (fun _ => 0)), (mp_arI E (b5 14) 0 60 (fun _ => 0)), (q7, .inr (0, [.null, .int 0, .null, .null, .null, .null, .null, .null]))]
  show mp_W E X 1 19 [(0, .ref h0)] [.ref q7, .ref h0] w4_ 16 1822
  refine mp_run mp_k_cX9_init_ok hF mp_tabX9_ok [mp_i .dup] (by decide +kernel) ?_
  refine And.intro rfl ?_
  show mp_W E X 1 20 [(0, .ref h0)] [.ref q7, .ref q7, .ref h0] w4_ 16 1822
  refine mp_callIN hF (As := []) (rest := [.ref q7, .ref h0]) (wr := w3_) (k_Course E q7) rfl (mp_gm (j := 1187) (by decide +kernel)) mp_lkX9_18 [16] [0, 1, 2, 3, 4, 5, 6, 7, 8, 9, 10, 11, 12, 13, 14, 15] rfl rfl rfl rfl rfl ⟨(Nat.le_of_ble_eq_true rfl), (Nat.le_of_ble_eq_true rfl), (Nat.le_of_ble_eq_true rfl), (Nat.le_of_ble_eq_true rfl)⟩ (Nat.le_of_ble_eq_true rfl) (by first | exact mp_fd_ok mp_k_cX9_init_ok (by decide +kernel) | decide +kernel) (fun v8 w9 h10 => ?_)
  obtain ⟨rfl, b11, h12, rfl⟩ := h10
  clear h12
  let w5_ : va_W := [(h0, .inr (9, [.ref q1, .null, .null, .null, .null, .null, .null, .null, .null])), (mp_ob3 q1 (b5 1) 0 (b5 2) 0 (-1) 0 0 0 0 0), (mp_arI E (b5 1) 1 1600 (fun _ => 0)), (mp_ob7 (b5 2) 0 0 0 0 0 0 (b5 3) (b5 4) (b5 5) (b5 6) (b5 7) (b5 8) (b5 9) (b5 10) (b5 11) (b5 12) (b5 13) (b5 14)), (mp_arI E (b5 3) 0 36 (fun _ => 0)), (mp_arL E (b5 4) 12 (fun _ => 0)), (mp_arI E (b5 5) 0 6 (fun _ => 0)), (mp_arI E (b5 6) 0 6 (fun _ => 0)), (mp_arI E (b5 7) 0 6 (fun _ => 0)), (mp_arI E (b5 8) 0 10 (fun _ => 0)), (mp_arI E (b5 9) 0 10 (fun _ => 0)), (mp_arI E (b5 10) 0 10 (fun _ => 0)), (mp_arI E (b5 11) 0 10 (fun _ => 0)), (mp_arI E (b5 12) 0 10 (fun _ => 0)), (mp_arI E (b5 13) 0 10 (fun _ => 0)), (mp_arI E (b5 14) 0 60 (fun _ => 0)), (mp_ob0 q7 (b11 1) 0 (b11 14) (b11 15) (b11 16) (b11 17) (b11 18) (b11 19)), (mp_ob7 (b11 1) 0 0 0 0 0 0 (b11 2) (b11 3) (b11 4) (b11 5) (b11 6) (b11 7) (b11 8) (b11 9) (b11 10) (b11 11) (b11 12) (b11 13)), (mp_arI E (b11 2) 0 36 (fun _ => 0)), (mp_arL E (b11 3) 12 (fun _ => 0)), (mp_arI E (b11 4) 0 6 (fun _ => 0)), (mp_arI E (b11 5) 0 6 (fun _ => 0)), (mp_arI E (b11 6) 0 6 (fun _ => 0)), (mp_arI E (b11 7) 0 10 (fun _ => 0)), (mp_arI E (b11 8) 0 10 (fun _ => 0)), (mp_arI E (b11 9) 0 10 (fun _ => 0)), (mp_arI E (b11 10) 0 10 (fun _ => 0)), (mp_arI E (b11 11) 0 10 (fun _ => 0)), (mp_arI E (b11 12) 0 10 (fun _ => 0)), (mp_arI E (b11 13) 0 60 (fun _ => 0)), (mp_arI E (b11 14) 0 6 (fun _ => 0)), (mp_arI E (b11 15) 0 6 (fun _ => 0)), (mp_arI E (b11 16) 0 6 (fun _ => 0)), (mp_arL E (b11 17) 20 (fun _ => 0)), (mp_arI E (b11 18) 0 10 (fun _ => 0)), (mp_arI E (b11 19) 0 10 (fun _ => 0))]
  show mp_W E X 1 23 [(0, .ref h0)] [.ref q7, .ref h0] w5_ 35 2084
  refine mp_run mp_k_cX9_init_ok hF mp_tabX9_ok [mp_h (.putfield 19) [37, 0]] (by decide +kernel) ?_
  refine And.intro rfl (And.intro rfl (And.intro rfl (And.intro rfl (And.intro (Nat.le_of_ble_eq_true rfl) ?_))))
  let w6_ : va_W := [(h0, .inr (9, [.ref q1, .ref q7, .null, .null, .null, .null, .null, .null, .null])), (mp_ob3 q1 (b5 1) 0 (b5 2) 0 (-1) 0 0 0 0 0), (mp_arI E (b5 1) 1 1600 (fun _ => 0)), (mp_ob7 (b5 2) 0 0 0 0 0 0 (b5 3) (b5 4) (b5 5) (b5 6) (b5 7) (b5 8) (b5 9) (b5 10) (b5 11) (b5 12) (b5 13) (b5 14)), (mp_arI E (b5 3) 0 36 (fun _ => 0)), (mp_arL E (b5 4) 12 (fun _ => 0)), (mp_arI E (b5 5) 0 6 (fun _ => 0)), (mp_arI E (b5 6) 0 6 (fun _ => 0)), (mp_arI E (b5 7) 0 6 (fun _ => 0)), (mp_arI E (b5 8) 0 10 (fun _ => 0)), (mp_arI E (b5 9) 0 10 (fun _ => 0)), (mp_arI E (b5 10) 0 10 (fun _ => 0)), (mp_arI E (b5 11) 0 10 (fun _ => 0)), (mp_arI E (b5 12) 0 10 (fun _ => 0)), (mp_arI E (b5 13) 0 10 (fun _ => 0)), (mp_arI E (b5 14) 0 60 (fun _ => 0)), (mp_ob0 q7 (b11 1) 0 (b11 14) (b11 15) (b11 16) (b11 17) (b11 18) (b11 19)), (mp_ob7 (b11 1) 0 0 0 0 0 0 (b11 2) (b11 3) (b11 4) (b11 5) (b11 6) (b11 7) (b11 8) (b11 9) (b11 10) (b11 11) (b11 12) (b11 13)), (mp_arI E (b11 2) 0 36 (fun _ => 0)), (mp_arL E (b11 3) 12 (fun _ => 0)), (mp_arI E (b11 4) 0 6 (fun _ => 0)), (mp_arI E (b11 5) 0 6 (fun _ => 0)), (mp_arI E (b11 6) 0 6 (fun _ => 0)), (mp_arI E (b11 7) 0 10 (fun _ => 0)), (mp_arI E (b11 8) 0 10 (fun _ => 0)), (mp_arI E (b11 9) 0 10 (fun _ => 0)), (mp_arI E (b11 10) 0 10 (fun _ => 0)), (mp_arI E (b11 11) 0 10 (fun _ => 0)), (mp_arI E (b11 12) 0 10 (fun _ => 0)), (mp_arI E (b11 13) 0 60 (fun _ => 0)), (mp_arI E (b11 14) 0 6 (fun _ => 0)), (mp_arI E (b11 15) 0 6 (fun _ => 0)), (mp_arI E (b11 16) 0 6 (fun _ => 0)), (mp_arL E (b11 17) 20 (fun _ => 0)), (mp_arI E (b11 18) 0 10 (fun _ => 0)), (mp_arI E (b11 19) 0 10 (fun _ => 0))]
  show mp_W E X 1 26 [(0, .ref h0)] [] w6_ 35 2084
  refine mp_run mp_k_cX9_init_ok hF mp_tabX9_ok [mp_i (.aload_n 0), mp_c (.iconst 3) 3] (by decide +kernel) ?_
  show mp_W E X 1 28 [(0, .ref h0)] [.int 3, .ref h0] w6_ 35 2084
  refine mp_newq hF (idx := 23) (mp_gm (j := 1227) (by decide +kernel)) (N := 3) (by decide) (by decide) (by decide) ⟨(Nat.le_of_ble_eq_true rfl), (Nat.le_of_ble_eq_true rfl)⟩ (by first | exact mp_fd_ok mp_k_cX9_init_ok (by decide +kernel) | decide +kernel) (fun q13 => ?_)
  let w7_ : va_W := [(h0, .inr (9, [.ref q1, .ref q7, .null, .null, .null, .null, .null, .null, .null])), (mp_ob3 q1 (b5 1) 0 (b5 2) 0 (-1) 0 0 0 0 0), (mp_arI E (b5 1) 1 1600 (fun _ => 0)), (mp_ob7 (b5 2) 0 0 0 0 0 0 (b5 3) (b5 4) (b5 5) (b5 6) (b5 7) (b5 8) (b5 9) (b5 10) (b5 11) (b5 12) (b5 13) (b5 14)), (mp_arI E (b5 3) 0 36 (fun _ => 0)), (mp_arL E (b5 4) 12 (fun _ => 0)), (mp_arI E (b5 5) 0 6 (fun _ => 0)), (mp_arI E (b5 6) 0 6 (fun _ => 0)), (mp_arI E (b5 7) 0 6 (fun _ => 0)), (mp_arI E (b5 8) 0 10 (fun _ => 0)), (mp_arI E (b5 9) 0 10 (fun _ => 0)), (mp_arI E (b5 10) 0 10 (fun _ => 0)), (mp_arI E (b5 11) 0 10 (fun _ => 0)), (mp_arI E (b5 12) 0 10 (fun _ => 0)), (mp_arI E (b5 13) 0 10 (fun _ => 0)), (mp_arI E (b5 14) 0 60 (fun _ => 0)), (mp_ob0 q7 (b11 1) 0 (b11 14) (b11 15) (b11 16) (b11 17) (b11 18) (b11 19)), (mp_ob7 (b11 1) 0 0 0 0 0 0 (b11 2) (b11 3) (b11 4) (b11 5) (b11 6) (b11 7) (b11 8) (b11 9) (b11 10) (b11 11) (b11 12) (b11 13)), (mp_arI E (b11 2) 0 36 (fun _ => 0)), (mp_arL E (b11 3) 12 (fun _ => 0)), (mp_arI E (b11 4) 0 6 (fun _ => 0)), (mp_arI E (b11 5) 0 6 (fun _ => 0)), (mp_arI E (b11 6) 0 6 (fun _ => 0)), (mp_arI E (b11 7) 0 10 (fun _ => 0)), (mp_arI E (b11 8) 0 10 (fun _ => 0)), (mp_arI E (b11 9) 0 10 (fun _ => 0)), (mp_arI E (b11 10) 0 10 (fun _ => 0)), (mp_arI E (b11 11) 0 10 (fun _ => 0)), (mp_arI E (b11 12) 0 10 (fun _ => 0)), (mp_arI E (b11 13) 0 60 (fun _ => 0)), (mp_arI E (b11 14) 0 6 (fun _ => 0)), (mp_arI E (b11 15) 0 6 (fun _ => 0)), (mp_arI E (b11 16) 0 6 (fun _ => 0)), (mp_arL E (b11 17) 20 (fun _ => 0)), (mp_arI E (b11 18) 0 10 (fun _ => 0)), (mp_arI E (b11 19) 0 10 (fun _ => 0)), (q13, .inl (E.2.2 4, 3, .inr (.inr (.inr (.inr (fun _ => none))))))]
  show mp_W E X 1 31 [(0, .ref h0)] [.ref q13, .ref h0] w7_ 36 2087
  refine mp_run mp_k_cX9_init_ok hF mp_tabX9_ok [mp_h (.putfield 25) [38, 0]] (by decide +kernel) ?_
  refine And.intro rfl (And.intro rfl (And.intro rfl (And.intro rfl (And.intro (Nat.le_of_ble_eq_true rfl) ?_))))
  let w8_ : va_W := [(h0, .inr (9, [.ref q1, .ref q7, .ref q13, .null, .null, .null, .null, .null, .null])), (mp_ob3 q1 (b5 1) 0 (b5 2) 0 (-1) 0 0 0 0 0), (mp_arI E (b5 1) 1 1600 (fun _ => 0)), (mp_ob7 (b5 2) 0 0 0 0 0 0 (b5 3) (b5 4) (b5 5) (b5 6) (b5 7) (b5 8) (b5 9) (b5 10) (b5 11) (b5 12) (b5 13) (b5 14)), (mp_arI E (b5 3) 0 36 (fun _ => 0)), (mp_arL E (b5 4) 12 (fun _ => 0)), (mp_arI E (b5 5) 0 6 (fun _ => 0)), (mp_arI E (b5 6) 0 6 (fun _ => 0)), (mp_arI E (b5 7) 0 6 (fun _ => 0)), (mp_arI E (b5 8) 0 10 (fun _ => 0)), (mp_arI E (b5 9) 0 10 (fun _ => 0)), (mp_arI E (b5 10) 0 10 (fun _ => 0)), (mp_arI E (b5 11) 0 10 (fun _ => 0)), (mp_arI E (b5 12) 0 10 (fun _ => 0)), (mp_arI E (b5 13) 0 10 (fun _ => 0)), (mp_arI E (b5 14) 0 60 (fun _ => 0)), (mp_ob0 q7 (b11 1) 0 (b11 14) (b11 15) (b11 16) (b11 17) (b11 18) (b11 19)), (mp_ob7 (b11 1) 0 0 0 0 0 0 (b11 2) (b11 3) (b11 4) (b11 5) (b11 6) (b11 7) (b11 8) (b11 9) (b11 10) (b11 11) (b11 12) (b11 13)), (mp_arI E (b11 2) 0 36 (fun _ => 0)), (mp_arL E (b11 3) 12 (fun _ => 0)), (mp_arI E (b11 4) 0 6 (fun _ => 0)), (mp_arI E (b11 5) 0 6 (fun _ => 0)), (mp_arI E (b11 6) 0 6 (fun _ => 0)), (mp_arI E (b11 7) 0 10 (fun _ => 0)), (mp_arI E (b11 8) 0 10 (fun _ => 0)), (mp_arI E (b11 9) 0 10 (fun _ => 0)), (mp_arI E (b11 10) 0 10 (fun _ => 0)), (mp_arI E (b11 11) 0 10 (fun _ => 0)), (mp_arI E (b11 12) 0 10 (fun _ => 0)), (mp_arI E (b11 13) 0 60 (fun _ => 0)), (mp_arI E (b11 14) 0 6 (fun _ => 0)), (mp_arI E (b11 15) 0 6 (fun _ => 0)), (mp_arI E (b11 16) 0 6 (fun _ => 0)), (mp_arL E (b11 17) 20 (fun _ => 0)), (mp_arI E (b11 18) 0 10 (fun _ => 0)), (mp_arI E (b11 19) 0 10 (fun _ => 0)), (q13, .inl (E.2.2 4, 3, .inr (.inr (.inr (.inr (fun _ => none))))))]
  show mp_W E X 1 34 [(0, .ref h0)] [] w8_ 36 2087
  refine mp_run mp_k_cX9_init_ok hF mp_tabX9_ok [mp_i (.aload_n 0)] (by decide +kernel) ?_
  show mp_W E X 1 35 [(0, .ref h0)] [.ref h0] w8_ 36 2087
  refine mp_new hF (mp_lnX9_29) ⟨(Nat.le_of_ble_eq_true rfl), (Nat.le_of_ble_eq_true rfl)⟩ (by first | exact mp_fd_ok mp_k_cX9_init_ok (by decide +kernel) | decide +kernel) (fun q14 => ?_)
  let w9_ : va_W := [(h0, .inr (9, [.ref q1, .ref q7, .ref q13, .null, .null, .null, .null, .null, .null])), (mp_ob3 q1 (b5 1) 0 (b5 2) 0 (-1) 0 0 0 0 0), (mp_arI E (b5 1) 1 1600 (fun _ => 0)), (mp_ob7 (b5 2) 0 0 0 0 0 0 (b5 3) (b5 4) (b5 5) (b5 6) (b5 7) (b5 8) (b5 9) (b5 10) (b5 11) (b5 12) (b5 13) (b5 14)), (mp_arI E (b5 3) 0 36 (fun _ => 0)), (mp_arL E (b5 4) 12 (fun _ => 0)), (mp_arI E (b5 5) 0 6 (fun _ => 0)), (mp_arI E (b5 6) 0 6 (fun _ => 0)), (mp_arI E (b5 7) 0 6 (fun _ => 0)), (mp_arI E (b5 8) 0 10 (fun _ => 0)), (mp_arI E (b5 9) 0 10 (fun _ => 0)), (mp_arI E (b5 10) 0 10 (fun _ => 0)), (mp_arI E (b5 11) 0 10 (fun _ => 0)), (mp_arI E (b5 12) 0 10 (fun _ => 0)), (mp_arI E (b5 13) 0 10 (fun _ => 0)), (mp_arI E (b5 14) 0 60 (fun _ => 0)), (mp_ob0 q7 (b11 1) 0 (b11 14) (b11 15) (b11 16) (b11 17) (b11 18) (b11 19)), (mp_ob7 (b11 1) 0 0 0 0 0 0 (b11 2) (b11 3) (b11 4) (b11 5) (b11 6) (b11 7) (b11 8) (b11 9) (b11 10) (b11 11) (b11 12) (b11 13)), (mp_arI E (b11 2) 0 36 (fun _ => 0)), (mp_arL E (b11 3) 12 (fun _ => 0)), (mp_arI E (b11 4) 0 6 (fun _ => 0)), (mp_arI E (b11 5) 0 6 (fun _ => 0)), (mp_arI E (b11 6) 0 6 (fun _ => 0)), (mp_arI E (b11 7) 0 10 (fun _ => 0)), (mp_arI E (b11 8) 0 10 (fun _ => 0)), (mp_arI E (b11 9) 0 10 (fun _ => 0)), (mp_arI E (b11 10) 0 10 (fun _ => 0)), (mp_arI E (b11 11) 0 10 (fun _ => 0)), (mp_arI E (b11 12) 0 10 (fun _ => 0)), (mp_arI E (b11 13) 0 60 (fun _ => 0)), (mp_arI E (b11 14) 0 6 (fun _ => 0)), (mp_arI E (b11 15) 0 6 (fun _ => 0)), (mp_arI E (b11 16) 0 6 (fun _ => 0)), (mp_arL E (b11 17) 20 (fun _ => 0)), (mp_arI E (b11 18) 0 10 (fun _ => 0)), (mp_arI E (b11 19) 0 10 (fun _ => 0)), (q13, .inl (E.2.2 4, 3, .inr (.inr (.inr (.inr (fun _ => none)))))), (q14, .inr (1, [.null, .int 0, .int 0, .null]))]
  show mp_W E X 1 38 [(0, .ref h0)] [.ref q14, .ref h0] w9_ 37 2091
  refine mp_run mp_k_cX9_init_ok hF mp_tabX9_ok [mp_i .dup] (by decide +kernel) ?_
  refine And.intro rfl ?_
  show mp_W E X 1 39 [(0, .ref h0)] [.ref q14, .ref q14, .ref h0] w9_ 37 2091
  refine mp_callIN hF (As := []) (rest := [.ref q14, .ref h0]) (wr := w8_) (k_Ledger E q14) rfl (mp_gm (j := 1232) (by decide +kernel)) mp_lkX9_31 [37] [0, 1, 2, 3, 4, 5, 6, 7, 8, 9, 10, 11, 12, 13, 14, 15, 16, 17, 18, 19, 20, 21, 22, 23, 24, 25, 26, 27, 28, 29, 30, 31, 32, 33, 34, 35, 36] rfl rfl rfl rfl rfl ⟨(Nat.le_of_ble_eq_true rfl), (Nat.le_of_ble_eq_true rfl), (Nat.le_of_ble_eq_true rfl), (Nat.le_of_ble_eq_true rfl)⟩ (Nat.le_of_ble_eq_true rfl) (by first | exact mp_fd_ok mp_k_cX9_init_ok (by decide +kernel) | decide +kernel) (fun v15 w16 h17 => ?_)
  obtain ⟨rfl, b18, h19, rfl⟩ := h17
  clear h19
  let w10_ : va_W := [(h0, .inr (9, [.ref q1, .ref q7, .ref q13, .null, .null, .null, .null, .null, .null])), (mp_ob3 q1 (b5 1) 0 (b5 2) 0 (-1) 0 0 0 0 0), (mp_arI E (b5 1) 1 1600 (fun _ => 0)), (mp_ob7 (b5 2) 0 0 0 0 0 0 (b5 3) (b5 4) (b5 5) (b5 6) (b5 7) (b5 8) (b5 9) (b5 10) (b5 11) (b5 12) (b5 13) (b5 14)), (mp_arI E (b5 3) 0 36 (fun _ => 0)), (mp_arL E (b5 4) 12 (fun _ => 0)), (mp_arI E (b5 5) 0 6 (fun _ => 0)), (mp_arI E (b5 6) 0 6 (fun _ => 0)), (mp_arI E (b5 7) 0 6 (fun _ => 0)), (mp_arI E (b5 8) 0 10 (fun _ => 0)), (mp_arI E (b5 9) 0 10 (fun _ => 0)), (mp_arI E (b5 10) 0 10 (fun _ => 0)), (mp_arI E (b5 11) 0 10 (fun _ => 0)), (mp_arI E (b5 12) 0 10 (fun _ => 0)), (mp_arI E (b5 13) 0 10 (fun _ => 0)), (mp_arI E (b5 14) 0 60 (fun _ => 0)), (mp_ob0 q7 (b11 1) 0 (b11 14) (b11 15) (b11 16) (b11 17) (b11 18) (b11 19)), (mp_ob7 (b11 1) 0 0 0 0 0 0 (b11 2) (b11 3) (b11 4) (b11 5) (b11 6) (b11 7) (b11 8) (b11 9) (b11 10) (b11 11) (b11 12) (b11 13)), (mp_arI E (b11 2) 0 36 (fun _ => 0)), (mp_arL E (b11 3) 12 (fun _ => 0)), (mp_arI E (b11 4) 0 6 (fun _ => 0)), (mp_arI E (b11 5) 0 6 (fun _ => 0)), (mp_arI E (b11 6) 0 6 (fun _ => 0)), (mp_arI E (b11 7) 0 10 (fun _ => 0)), (mp_arI E (b11 8) 0 10 (fun _ => 0)), (mp_arI E (b11 9) 0 10 (fun _ => 0)), (mp_arI E (b11 10) 0 10 (fun _ => 0)), (mp_arI E (b11 11) 0 10 (fun _ => 0)), (mp_arI E (b11 12) 0 10 (fun _ => 0)), (mp_arI E (b11 13) 0 60 (fun _ => 0)), (mp_arI E (b11 14) 0 6 (fun _ => 0)), (mp_arI E (b11 15) 0 6 (fun _ => 0)), (mp_arI E (b11 16) 0 6 (fun _ => 0)), (mp_arL E (b11 17) 20 (fun _ => 0)), (mp_arI E (b11 18) 0 10 (fun _ => 0)), (mp_arI E (b11 19) 0 10 (fun _ => 0)), (q13, .inl (E.2.2 4, 3, .inr (.inr (.inr (.inr (fun _ => none)))))), (mp_ob1 q14 (b18 1) 0 0 (b18 2)), (mp_arI E (b18 1) 0 36 (fun _ => 0)), (mp_arI E (b18 2) 0 3 (fun _ => 0))]
  show mp_W E X 1 42 [(0, .ref h0)] [.ref q14, .ref h0] w10_ 39 2130
  refine mp_run mp_k_cX9_init_ok hF mp_tabX9_ok [mp_h (.putfield 32) [39, 0]] (by decide +kernel) ?_
  refine And.intro rfl (And.intro rfl (And.intro rfl (And.intro rfl (And.intro (Nat.le_of_ble_eq_true rfl) ?_))))
  let w11_ : va_W := [(h0, .inr (9, [.ref q1, .ref q7, .ref q13, .ref q14, .null, .null, .null, .null, .null])), (mp_ob3 q1 (b5 1) 0 (b5 2) 0 (-1) 0 0 0 0 0), (mp_arI E (b5 1) 1 1600 (fun _ => 0)), (mp_ob7 (b5 2) 0 0 0 0 0 0 (b5 3) (b5 4) (b5 5) (b5 6) (b5 7) (b5 8) (b5 9) (b5 10) (b5 11) (b5 12) (b5 13) (b5 14)), (mp_arI E (b5 3) 0 36 (fun _ => 0)), (mp_arL E (b5 4) 12 (fun _ => 0)), (mp_arI E (b5 5) 0 6 (fun _ => 0)), (mp_arI E (b5 6) 0 6 (fun _ => 0)), (mp_arI E (b5 7) 0 6 (fun _ => 0)), (mp_arI E (b5 8) 0 10 (fun _ => 0)), (mp_arI E (b5 9) 0 10 (fun _ => 0)), (mp_arI E (b5 10) 0 10 (fun _ => 0)), (mp_arI E (b5 11) 0 10 (fun _ => 0)), (mp_arI E (b5 12) 0 10 (fun _ => 0)), (mp_arI E (b5 13) 0 10 (fun _ => 0)), (mp_arI E (b5 14) 0 60 (fun _ => 0)), (mp_ob0 q7 (b11 1) 0 (b11 14) (b11 15) (b11 16) (b11 17) (b11 18) (b11 19)), (mp_ob7 (b11 1) 0 0 0 0 0 0 (b11 2) (b11 3) (b11 4) (b11 5) (b11 6) (b11 7) (b11 8) (b11 9) (b11 10) (b11 11) (b11 12) (b11 13)), (mp_arI E (b11 2) 0 36 (fun _ => 0)), (mp_arL E (b11 3) 12 (fun _ => 0)), (mp_arI E (b11 4) 0 6 (fun _ => 0)), (mp_arI E (b11 5) 0 6 (fun _ => 0)), (mp_arI E (b11 6) 0 6 (fun _ => 0)), (mp_arI E (b11 7) 0 10 (fun _ => 0)), (mp_arI E (b11 8) 0 10 (fun _ => 0)), (mp_arI E (b11 9) 0 10 (fun _ => 0)), (mp_arI E (b11 10) 0 10 (fun _ => 0)), (mp_arI E (b11 11) 0 10 (fun _ => 0)), (mp_arI E (b11 12) 0 10 (fun _ => 0)), (mp_arI E (b11 13) 0 60 (fun _ => 0)), (mp_arI E (b11 14) 0 6 (fun _ => 0)), (mp_arI E (b11 15) 0 6 (fun _ => 0)), (mp_arI E (b11 16) 0 6 (fun _ => 0)), (mp_arL E (b11 17) 20 (fun _ => 0)), (mp_arI E (b11 18) 0 10 (fun _ => 0)), (mp_arI E (b11 19) 0 10 (fun _ => 0)), (q13, .inl (E.2.2 4, 3, .inr (.inr (.inr (.inr (fun _ => none)))))), (mp_ob1 q14 (b18 1) 0 0 (b18 2)), (mp_arI E (b18 1) 0 36 (fun _ => 0)), (mp_arI E (b18 2) 0 3 (fun _ => 0))]
  show mp_W E X 1 45 [(0, .ref h0)] [] w11_ 39 2130
  refine mp_run mp_k_cX9_init_ok hF mp_tabX9_ok [mp_i (.aload_n 0)] (by decide +kernel) ?_
  show mp_W E X 1 46 [(0, .ref h0)] [.ref h0] w11_ 39 2130
  refine mp_new hF (mp_lnX9_36) ⟨(Nat.le_of_ble_eq_true rfl), (Nat.le_of_ble_eq_true rfl)⟩ (by first | exact mp_fd_ok mp_k_cX9_init_ok (by decide +kernel) | decide +kernel) (fun q20 => ?_)
  let w12_ : va_W := [(h0, .inr (9, [.ref q1, .ref q7, .ref q13, .ref q14, .null, .null, .null, .null, .null])), (mp_ob3 q1 (b5 1) 0 (b5 2) 0 (-1) 0 0 0 0 0), (mp_arI E (b5 1) 1 1600 (fun _ => 0)), (mp_ob7 (b5 2) 0 0 0 0 0 0 (b5 3) (b5 4) (b5 5) (b5 6) (b5 7) (b5 8) (b5 9) (b5 10) (b5 11) (b5 12) (b5 13) (b5 14)), (mp_arI E (b5 3) 0 36 (fun _ => 0)), (mp_arL E (b5 4) 12 (fun _ => 0)), (mp_arI E (b5 5) 0 6 (fun _ => 0)), (mp_arI E (b5 6) 0 6 (fun _ => 0)), (mp_arI E (b5 7) 0 6 (fun _ => 0)), (mp_arI E (b5 8) 0 10 (fun _ => 0)), (mp_arI E (b5 9) 0 10 (fun _ => 0)), (mp_arI E (b5 10) 0 10 (fun _ => 0)), (mp_arI E (b5 11) 0 10 (fun _ => 0)), (mp_arI E (b5 12) 0 10 (fun _ => 0)), (mp_arI E (b5 13) 0 10 (fun _ => 0)), (mp_arI E (b5 14) 0 60 (fun _ => 0)), (mp_ob0 q7 (b11 1) 0 (b11 14) (b11 15) (b11 16) (b11 17) (b11 18) (b11 19)), (mp_ob7 (b11 1) 0 0 0 0 0 0 (b11 2) (b11 3) (b11 4) (b11 5) (b11 6) (b11 7) (b11 8) (b11 9) (b11 10) (b11 11) (b11 12) (b11 13)), (mp_arI E (b11 2) 0 36 (fun _ => 0)), (mp_arL E (b11 3) 12 (fun _ => 0)), (mp_arI E (b11 4) 0 6 (fun _ => 0)), (mp_arI E (b11 5) 0 6 (fun _ => 0)), (mp_arI E (b11 6) 0 6 (fun _ => 0)), (mp_arI E (b11 7) 0 10 (fun _ => 0)), (mp_arI E (b11 8) 0 10 (fun _ => 0)), (mp_arI E (b11 9) 0 10 (fun _ => 0)), (mp_arI E (b11 10) 0 10 (fun _ => 0)), (mp_arI E (b11 11) 0 10 (fun _ => 0)), (mp_arI E (b11 12) 0 10 (fun _ => 0)), (mp_arI E (b11 13) 0 60 (fun _ => 0)), (mp_arI E (b11 14) 0 6 (fun _ => 0)), (mp_arI E (b11 15) 0 6 (fun _ => 0)), (mp_arI E (b11 16) 0 6 (fun _ => 0)), (mp_arL E (b11 17) 20 (fun _ => 0)), (mp_arI E (b11 18) 0 10 (fun _ => 0)), (mp_arI E (b11 19) 0 10 (fun _ => 0)), (q13, .inl (E.2.2 4, 3, .inr (.inr (.inr (.inr (fun _ => none)))))), (mp_ob1 q14 (b18 1) 0 0 (b18 2)), (mp_arI E (b18 1) 0 36 (fun _ => 0)), (mp_arI E (b18 2) 0 3 (fun _ => 0)), (q20, .inr (2, [.int 0, .int 0, .int 0, .int 0, .null, .null, .null, .null, .null, .int 0, .int 0]))]
  show mp_W E X 1 49 [(0, .ref h0)] [.ref q20, .ref h0] w12_ 40 2141
  refine mp_run mp_k_cX9_init_ok hF mp_tabX9_ok [mp_i .dup] (by decide +kernel) ?_
  refine And.intro rfl ?_
  show mp_W E X 1 50 [(0, .ref h0)] [.ref q20, .ref q20, .ref h0] w12_ 40 2141
  refine mp_callIN hF (As := []) (rest := [.ref q20, .ref h0]) (wr := w11_) (k_Planner E q20) rfl (mp_gm (j := 2013) (by decide +kernel)) mp_lkX9_38 [40] [0, 1, 2, 3, 4, 5, 6, 7, 8, 9, 10, 11, 12, 13, 14, 15, 16, 17, 18, 19, 20, 21, 22, 23, 24, 25, 26, 27, 28, 29, 30, 31, 32, 33, 34, 35, 36, 37, 38, 39] rfl rfl rfl rfl rfl ⟨(Nat.le_of_ble_eq_true rfl), (Nat.le_of_ble_eq_true rfl), (Nat.le_of_ble_eq_true rfl), (Nat.le_of_ble_eq_true rfl)⟩ (Nat.le_of_ble_eq_true rfl) (by first | exact mp_fd_ok mp_k_cX9_init_ok (by decide +kernel) | decide +kernel) (fun v21 w22 h23 => ?_)
  obtain ⟨rfl, b24, h25, rfl⟩ := h23
  clear h25
  let w13_ : va_W := [(h0, .inr (9, [.ref q1, .ref q7, .ref q13, .ref q14, .null, .null, .null, .null, .null])), (mp_ob3 q1 (b5 1) 0 (b5 2) 0 (-1) 0 0 0 0 0), (mp_arI E (b5 1) 1 1600 (fun _ => 0)), (mp_ob7 (b5 2) 0 0 0 0 0 0 (b5 3) (b5 4) (b5 5) (b5 6) (b5 7) (b5 8) (b5 9) (b5 10) (b5 11) (b5 12) (b5 13) (b5 14)), (mp_arI E (b5 3) 0 36 (fun _ => 0)), (mp_arL E (b5 4) 12 (fun _ => 0)), (mp_arI E (b5 5) 0 6 (fun _ => 0)), (mp_arI E (b5 6) 0 6 (fun _ => 0)), (mp_arI E (b5 7) 0 6 (fun _ => 0)), (mp_arI E (b5 8) 0 10 (fun _ => 0)), (mp_arI E (b5 9) 0 10 (fun _ => 0)), (mp_arI E (b5 10) 0 10 (fun _ => 0)), (mp_arI E (b5 11) 0 10 (fun _ => 0)), (mp_arI E (b5 12) 0 10 (fun _ => 0)), (mp_arI E (b5 13) 0 10 (fun _ => 0)), (mp_arI E (b5 14) 0 60 (fun _ => 0)), (mp_ob0 q7 (b11 1) 0 (b11 14) (b11 15) (b11 16) (b11 17) (b11 18) (b11 19)), (mp_ob7 (b11 1) 0 0 0 0 0 0 (b11 2) (b11 3) (b11 4) (b11 5) (b11 6) (b11 7) (b11 8) (b11 9) (b11 10) (b11 11) (b11 12) (b11 13)), (mp_arI E (b11 2) 0 36 (fun _ => 0)), (mp_arL E (b11 3) 12 (fun _ => 0)), (mp_arI E (b11 4) 0 6 (fun _ => 0)), (mp_arI E (b11 5) 0 6 (fun _ => 0)), (mp_arI E (b11 6) 0 6 (fun _ => 0)), (mp_arI E (b11 7) 0 10 (fun _ => 0)), (mp_arI E (b11 8) 0 10 (fun _ => 0)), (mp_arI E (b11 9) 0 10 (fun _ => 0)), (mp_arI E (b11 10) 0 10 (fun _ => 0)), (mp_arI E (b11 11) 0 10 (fun _ => 0)), (mp_arI E (b11 12) 0 10 (fun _ => 0)), (mp_arI E (b11 13) 0 60 (fun _ => 0)), (mp_arI E (b11 14) 0 6 (fun _ => 0)), (mp_arI E (b11 15) 0 6 (fun _ => 0)), (mp_arI E (b11 16) 0 6 (fun _ => 0)), (mp_arL E (b11 17) 20 (fun _ => 0)), (mp_arI E (b11 18) 0 10 (fun _ => 0)), (mp_arI E (b11 19) 0 10 (fun _ => 0)), (q13, .inl (E.2.2 4, 3, .inr (.inr (.inr (.inr (fun _ => none)))))), (mp_ob1 q14 (b18 1) 0 0 (b18 2)), (mp_arI E (b18 1) 0 36 (fun _ => 0)), (mp_arI E (b18 2) 0 3 (fun _ => 0)), (mp_ob2 q20 0 0 0 0 (b24 1) (b24 2) (b24 3) (b24 4) (b24 5) 0 0), (mp_arI E (b24 1) 0 432 (fun _ => 0)), (mp_arI E (b24 2) 0 432 (fun _ => 0)), (mp_arI E (b24 3) 0 72 (fun _ => 0)), (mp_arI E (b24 4) 0 78 (fun _ => 0)), (mp_arL E (b24 5) 78 (fun _ => 0))]
  show mp_W E X 1 53 [(0, .ref h0)] [.ref q20, .ref h0] w13_ 45 3233
  refine mp_run mp_k_cX9_init_ok hF mp_tabX9_ok [mp_h (.putfield 39) [40, 0]] (by decide +kernel) ?_
  refine And.intro rfl (And.intro rfl (And.intro rfl (And.intro rfl (And.intro (Nat.le_of_ble_eq_true rfl) ?_))))
  let w14_ : va_W := [(h0, .inr (9, [.ref q1, .ref q7, .ref q13, .ref q14, .ref q20, .null, .null, .null, .null])), (mp_ob3 q1 (b5 1) 0 (b5 2) 0 (-1) 0 0 0 0 0), (mp_arI E (b5 1) 1 1600 (fun _ => 0)), (mp_ob7 (b5 2) 0 0 0 0 0 0 (b5 3) (b5 4) (b5 5) (b5 6) (b5 7) (b5 8) (b5 9) (b5 10) (b5 11) (b5 12) (b5 13) (b5 14)), (mp_arI E (b5 3) 0 36 (fun _ => 0)), (mp_arL E (b5 4) 12 (fun _ => 0)), (mp_arI E (b5 5) 0 6 (fun _ => 0)), (mp_arI E (b5 6) 0 6 (fun _ => 0)), (mp_arI E (b5 7) 0 6 (fun _ => 0)), (mp_arI E (b5 8) 0 10 (fun _ => 0)), (mp_arI E (b5 9) 0 10 (fun _ => 0)), (mp_arI E (b5 10) 0 10 (fun _ => 0)), (mp_arI E (b5 11) 0 10 (fun _ => 0)), (mp_arI E (b5 12) 0 10 (fun _ => 0)), (mp_arI E (b5 13) 0 10 (fun _ => 0)), (mp_arI E (b5 14) 0 60 (fun _ => 0)), (mp_ob0 q7 (b11 1) 0 (b11 14) (b11 15) (b11 16) (b11 17) (b11 18) (b11 19)), (mp_ob7 (b11 1) 0 0 0 0 0 0 (b11 2) (b11 3) (b11 4) (b11 5) (b11 6) (b11 7) (b11 8) (b11 9) (b11 10) (b11 11) (b11 12) (b11 13)), (mp_arI E (b11 2) 0 36 (fun _ => 0)), (mp_arL E (b11 3) 12 (fun _ => 0)), (mp_arI E (b11 4) 0 6 (fun _ => 0)), (mp_arI E (b11 5) 0 6 (fun _ => 0)), (mp_arI E (b11 6) 0 6 (fun _ => 0)), (mp_arI E (b11 7) 0 10 (fun _ => 0)), (mp_arI E (b11 8) 0 10 (fun _ => 0)), (mp_arI E (b11 9) 0 10 (fun _ => 0)), (mp_arI E (b11 10) 0 10 (fun _ => 0)), (mp_arI E (b11 11) 0 10 (fun _ => 0)), (mp_arI E (b11 12) 0 10 (fun _ => 0)), (mp_arI E (b11 13) 0 60 (fun _ => 0)), (mp_arI E (b11 14) 0 6 (fun _ => 0)), (mp_arI E (b11 15) 0 6 (fun _ => 0)), (mp_arI E (b11 16) 0 6 (fun _ => 0)), (mp_arL E (b11 17) 20 (fun _ => 0)), (mp_arI E (b11 18) 0 10 (fun _ => 0)), (mp_arI E (b11 19) 0 10 (fun _ => 0)), (q13, .inl (E.2.2 4, 3, .inr (.inr (.inr (.inr (fun _ => none)))))), (mp_ob1 q14 (b18 1) 0 0 (b18 2)), (mp_arI E (b18 1) 0 36 (fun _ => 0)), (mp_arI E (b18 2) 0 3 (fun _ => 0)), (mp_ob2 q20 0 0 0 0 (b24 1) (b24 2) (b24 3) (b24 4) (b24 5) 0 0), (mp_arI E (b24 1) 0 432 (fun _ => 0)), (mp_arI E (b24 2) 0 432 (fun _ => 0)), (mp_arI E (b24 3) 0 72 (fun _ => 0)), (mp_arI E (b24 4) 0 78 (fun _ => 0)), (mp_arL E (b24 5) 78 (fun _ => 0))]
  show mp_W E X 1 56 [(0, .ref h0)] [] w14_ 45 3233
  refine mp_run mp_k_cX9_init_ok hF mp_tabX9_ok [mp_i (.aload_n 0)] (by decide +kernel) ?_
  show mp_W E X 1 57 [(0, .ref h0)] [.ref h0] w14_ 45 3233
  refine mp_new hF (mp_lnX9_43) ⟨(Nat.le_of_ble_eq_true rfl), (Nat.le_of_ble_eq_true rfl)⟩ (by first | exact mp_fd_ok mp_k_cX9_init_ok (by decide +kernel) | decide +kernel) (fun q26 => ?_)
  let w15_ : va_W := [(h0, .inr (9, [.ref q1, .ref q7, .ref q13, .ref q14, .ref q20, .null, .null, .null, .null])), (mp_ob3 q1 (b5 1) 0 (b5 2) 0 (-1) 0 0 0 0 0), (mp_arI E (b5 1) 1 1600 (fun _ => 0)), (mp_ob7 (b5 2) 0 0 0 0 0 0 (b5 3) (b5 4) (b5 5) (b5 6) (b5 7) (b5 8) (b5 9) (b5 10) (b5 11) (b5 12) (b5 13) (b5 14)), (mp_arI E (b5 3) 0 36 (fun _ => 0)), (mp_arL E (b5 4) 12 (fun _ => 0)), (mp_arI E (b5 5) 0 6 (fun _ => 0)), (mp_arI E (b5 6) 0 6 (fun _ => 0)), (mp_arI E (b5 7) 0 6 (fun _ => 0)), (mp_arI E (b5 8) 0 10 (fun _ => 0)), (mp_arI E (b5 9) 0 10 (fun _ => 0)), (mp_arI E (b5 10) 0 10 (fun _ => 0)), (mp_arI E (b5 11) 0 10 (fun _ => 0)), (mp_arI E (b5 12) 0 10 (fun _ => 0)), (mp_arI E (b5 13) 0 10 (fun _ => 0)), (mp_arI E (b5 14) 0 60 (fun _ => 0)), (mp_ob0 q7 (b11 1) 0 (b11 14) (b11 15) (b11 16) (b11 17) (b11 18) (b11 19)), (mp_ob7 (b11 1) 0 0 0 0 0 0 (b11 2) (b11 3) (b11 4) (b11 5) (b11 6) (b11 7) (b11 8) (b11 9) (b11 10) (b11 11) (b11 12) (b11 13)), (mp_arI E (b11 2) 0 36 (fun _ => 0)), (mp_arL E (b11 3) 12 (fun _ => 0)), (mp_arI E (b11 4) 0 6 (fun _ => 0)), (mp_arI E (b11 5) 0 6 (fun _ => 0)), (mp_arI E (b11 6) 0 6 (fun _ => 0)), (mp_arI E (b11 7) 0 10 (fun _ => 0)), (mp_arI E (b11 8) 0 10 (fun _ => 0)), (mp_arI E (b11 9) 0 10 (fun _ => 0)), (mp_arI E (b11 10) 0 10 (fun _ => 0)), (mp_arI E (b11 11) 0 10 (fun _ => 0)), (mp_arI E (b11 12) 0 10 (fun _ => 0)), (mp_arI E (b11 13) 0 60 (fun _ => 0)), (mp_arI E (b11 14) 0 6 (fun _ => 0)), (mp_arI E (b11 15) 0 6 (fun _ => 0)), (mp_arI E (b11 16) 0 6 (fun _ => 0)), (mp_arL E (b11 17) 20 (fun _ => 0)), (mp_arI E (b11 18) 0 10 (fun _ => 0)), (mp_arI E (b11 19) 0 10 (fun _ => 0)), (q13, .inl (E.2.2 4, 3, .inr (.inr (.inr (.inr (fun _ => none)))))), (mp_ob1 q14 (b18 1) 0 0 (b18 2)), (mp_arI E (b18 1) 0 36 (fun _ => 0)), (mp_arI E (b18 2) 0 3 (fun _ => 0)), (mp_ob2 q20 0 0 0 0 (b24 1) (b24 2) (b24 3) (b24 4) (b24 5) 0 0), (mp_arI E (b24 1) 0 432 (fun _ => 0)), (mp_arI E (b24 2) 0 432 (fun _ => 0)), (mp_arI E (b24 3) 0 72 (fun _ => 0)), (mp_arI E (b24 4) 0 78 (fun _ => 0)), (mp_arL E (b24 5) 78 (fun _ => 0)), (q26, .inr (4, [.int 0, .int 0, .int 0, .null, .int 0, .int 0, .int 0, .int 0, .int 0, .null]))]
  show mp_W E X 1 60 [(0, .ref h0)] [.ref q26, .ref h0] w15_ 46 3243
  refine mp_run mp_k_cX9_init_ok hF mp_tabX9_ok [mp_i .dup] (by decide +kernel) ?_
  refine And.intro rfl ?_
  show mp_W E X 1 61 [(0, .ref h0)] [.ref q26, .ref q26, .ref h0] w15_ 46 3243
  refine mp_callIN hF (As := []) (rest := [.ref q26, .ref h0]) (wr := w14_) (k_Scales E q26) rfl (mp_gm (j := 2055) (by decide +kernel)) mp_lkX9_45 [46] [0, 1, 2, 3, 4, 5, 6, 7, 8, 9, 10, 11, 12, 13, 14, 15, 16, 17, 18, 19, 20, 21, 22, 23, 24, 25, 26, 27, 28, 29, 30, 31, 32, 33, 34, 35, 36, 37, 38, 39, 40, 41, 42, 43, 44, 45] rfl rfl rfl rfl rfl ⟨(Nat.le_of_ble_eq_true rfl), (Nat.le_of_ble_eq_true rfl), (Nat.le_of_ble_eq_true rfl), (Nat.le_of_ble_eq_true rfl)⟩ (Nat.le_of_ble_eq_true rfl) (by first | exact mp_fd_ok mp_k_cX9_init_ok (by decide +kernel) | decide +kernel) (fun v27 w28 h29 => ?_)
  obtain ⟨rfl, b30, h31, rfl⟩ := h29
  clear h31
  let w16_ : va_W := [(h0, .inr (9, [.ref q1, .ref q7, .ref q13, .ref q14, .ref q20, .null, .null, .null, .null])), (mp_ob3 q1 (b5 1) 0 (b5 2) 0 (-1) 0 0 0 0 0), (mp_arI E (b5 1) 1 1600 (fun _ => 0)), (mp_ob7 (b5 2) 0 0 0 0 0 0 (b5 3) (b5 4) (b5 5) (b5 6) (b5 7) (b5 8) (b5 9) (b5 10) (b5 11) (b5 12) (b5 13) (b5 14)), (mp_arI E (b5 3) 0 36 (fun _ => 0)), (mp_arL E (b5 4) 12 (fun _ => 0)), (mp_arI E (b5 5) 0 6 (fun _ => 0)), (mp_arI E (b5 6) 0 6 (fun _ => 0)), (mp_arI E (b5 7) 0 6 (fun _ => 0)), (mp_arI E (b5 8) 0 10 (fun _ => 0)), (mp_arI E (b5 9) 0 10 (fun _ => 0)), (mp_arI E (b5 10) 0 10 (fun _ => 0)), (mp_arI E (b5 11) 0 10 (fun _ => 0)), (mp_arI E (b5 12) 0 10 (fun _ => 0)), (mp_arI E (b5 13) 0 10 (fun _ => 0)), (mp_arI E (b5 14) 0 60 (fun _ => 0)), (mp_ob0 q7 (b11 1) 0 (b11 14) (b11 15) (b11 16) (b11 17) (b11 18) (b11 19)), (mp_ob7 (b11 1) 0 0 0 0 0 0 (b11 2) (b11 3) (b11 4) (b11 5) (b11 6) (b11 7) (b11 8) (b11 9) (b11 10) (b11 11) (b11 12) (b11 13)), (mp_arI E (b11 2) 0 36 (fun _ => 0)), (mp_arL E (b11 3) 12 (fun _ => 0)), (mp_arI E (b11 4) 0 6 (fun _ => 0)), (mp_arI E (b11 5) 0 6 (fun _ => 0)), (mp_arI E (b11 6) 0 6 (fun _ => 0)), (mp_arI E (b11 7) 0 10 (fun _ => 0)), (mp_arI E (b11 8) 0 10 (fun _ => 0)), (mp_arI E (b11 9) 0 10 (fun _ => 0)), (mp_arI E (b11 10) 0 10 (fun _ => 0)), (mp_arI E (b11 11) 0 10 (fun _ => 0)), (mp_arI E (b11 12) 0 10 (fun _ => 0)), (mp_arI E (b11 13) 0 60 (fun _ => 0)), (mp_arI E (b11 14) 0 6 (fun _ => 0)), (mp_arI E (b11 15) 0 6 (fun _ => 0)), (mp_arI E (b11 16) 0 6 (fun _ => 0)), (mp_arL E (b11 17) 20 (fun _ => 0)), (mp_arI E (b11 18) 0 10 (fun _ => 0)), (mp_arI E (b11 19) 0 10 (fun _ => 0)), (q13, .inl (E.2.2 4, 3, .inr (.inr (.inr (.inr (fun _ => none)))))), (mp_ob1 q14 (b18 1) 0 0 (b18 2)), (mp_arI E (b18 1) 0 36 (fun _ => 0)), (mp_arI E (b18 2) 0 3 (fun _ => 0)), (mp_ob2 q20 0 0 0 0 (b24 1) (b24 2) (b24 3) (b24 4) (b24 5) 0 0), (mp_arI E (b24 1) 0 432 (fun _ => 0)), (mp_arI E (b24 2) 0 432 (fun _ => 0)), (mp_arI E (b24 3) 0 72 (fun _ => 0)), (mp_arI E (b24 4) 0 78 (fun _ => 0)), (mp_arL E (b24 5) 78 (fun _ => 0)), (mp_ob4 q26 0 0 0 (b30 1) 0 0 0 0 0 (b30 2)), (mp_arI E (b30 1) 0 11 (fun _ => 0)), (mp_arI E (b30 2) 0 132 (fun _ => 0))]
  show mp_W E X 1 64 [(0, .ref h0)] [.ref q26, .ref h0] w16_ 48 3386
  refine mp_run mp_k_cX9_init_ok hF mp_tabX9_ok [mp_h (.putfield 46) [41, 0]] (by decide +kernel) ?_
  refine And.intro rfl (And.intro rfl (And.intro rfl (And.intro rfl (And.intro (Nat.le_of_ble_eq_true rfl) ?_))))
  let w17_ : va_W := [(h0, .inr (9, [.ref q1, .ref q7, .ref q13, .ref q14, .ref q20, .ref q26, .null, .null, .null])), (mp_ob3 q1 (b5 1) 0 (b5 2) 0 (-1) 0 0 0 0 0), (mp_arI E (b5 1) 1 1600 (fun _ => 0)), (mp_ob7 (b5 2) 0 0 0 0 0 0 (b5 3) (b5 4) (b5 5) (b5 6) (b5 7) (b5 8) (b5 9) (b5 10) (b5 11) (b5 12) (b5 13) (b5 14)), (mp_arI E (b5 3) 0 36 (fun _ => 0)), (mp_arL E (b5 4) 12 (fun _ => 0)), (mp_arI E (b5 5) 0 6 (fun _ => 0)), (mp_arI E (b5 6) 0 6 (fun _ => 0)), (mp_arI E (b5 7) 0 6 (fun _ => 0)), (mp_arI E (b5 8) 0 10 (fun _ => 0)), (mp_arI E (b5 9) 0 10 (fun _ => 0)), (mp_arI E (b5 10) 0 10 (fun _ => 0)), (mp_arI E (b5 11) 0 10 (fun _ => 0)), (mp_arI E (b5 12) 0 10 (fun _ => 0)), (mp_arI E (b5 13) 0 10 (fun _ => 0)), (mp_arI E (b5 14) 0 60 (fun _ => 0)), (mp_ob0 q7 (b11 1) 0 (b11 14) (b11 15) (b11 16) (b11 17) (b11 18) (b11 19)), (mp_ob7 (b11 1) 0 0 0 0 0 0 (b11 2) (b11 3) (b11 4) (b11 5) (b11 6) (b11 7) (b11 8) (b11 9) (b11 10) (b11 11) (b11 12) (b11 13)), (mp_arI E (b11 2) 0 36 (fun _ => 0)), (mp_arL E (b11 3) 12 (fun _ => 0)), (mp_arI E (b11 4) 0 6 (fun _ => 0)), (mp_arI E (b11 5) 0 6 (fun _ => 0)), (mp_arI E (b11 6) 0 6 (fun _ => 0)), (mp_arI E (b11 7) 0 10 (fun _ => 0)), (mp_arI E (b11 8) 0 10 (fun _ => 0)), (mp_arI E (b11 9) 0 10 (fun _ => 0)), (mp_arI E (b11 10) 0 10 (fun _ => 0)), (mp_arI E (b11 11) 0 10 (fun _ => 0)), (mp_arI E (b11 12) 0 10 (fun _ => 0)), (mp_arI E (b11 13) 0 60 (fun _ => 0)), (mp_arI E (b11 14) 0 6 (fun _ => 0)), (mp_arI E (b11 15) 0 6 (fun _ => 0)), (mp_arI E (b11 16) 0 6 (fun _ => 0)), (mp_arL E (b11 17) 20 (fun _ => 0)), (mp_arI E (b11 18) 0 10 (fun _ => 0)), (mp_arI E (b11 19) 0 10 (fun _ => 0)), (q13, .inl (E.2.2 4, 3, .inr (.inr (.inr (.inr (fun _ => none)))))), (mp_ob1 q14 (b18 1) 0 0 (b18 2)), (mp_arI E (b18 1) 0 36 (fun _ => 0)), (mp_arI E (b18 2) 0 3 (fun _ => 0)), (mp_ob2 q20 0 0 0 0 (b24 1) (b24 2) (b24 3) (b24 4) (b24 5) 0 0), (mp_arI E (b24 1) 0 432 (fun _ => 0)), (mp_arI E (b24 2) 0 432 (fun _ => 0)), (mp_arI E (b24 3) 0 72 (fun _ => 0)), (mp_arI E (b24 4) 0 78 (fun _ => 0)), (mp_arL E (b24 5) 78 (fun _ => 0)), (mp_ob4 q26 0 0 0 (b30 1) 0 0 0 0 0 (b30 2)), (mp_arI E (b30 1) 0 11 (fun _ => 0)), (mp_arI E (b30 2) 0 132 (fun _ => 0))]
  show mp_W E X 1 67 [(0, .ref h0)] [] w17_ 48 3386
  refine mp_run mp_k_cX9_init_ok hF mp_tabX9_ok [mp_i (.aload_n 0)] (by decide +kernel) ?_
  show mp_W E X 1 68 [(0, .ref h0)] [.ref h0] w17_ 48 3386
  refine mp_new hF (mp_lnX9_50) ⟨(Nat.le_of_ble_eq_true rfl), (Nat.le_of_ble_eq_true rfl)⟩ (by first | exact mp_fd_ok mp_k_cX9_init_ok (by decide +kernel) | decide +kernel) (fun q32 => ?_)
  let w18_ : va_W := [(h0, .inr (9, [.ref q1, .ref q7, .ref q13, .ref q14, .ref q20, .ref q26, .null, .null, .null])), (mp_ob3 q1 (b5 1) 0 (b5 2) 0 (-1) 0 0 0 0 0), (mp_arI E (b5 1) 1 1600 (fun _ => 0)), (mp_ob7 (b5 2) 0 0 0 0 0 0 (b5 3) (b5 4) (b5 5) (b5 6) (b5 7) (b5 8) (b5 9) (b5 10) (b5 11) (b5 12) (b5 13) (b5 14)), (mp_arI E (b5 3) 0 36 (fun _ => 0)), (mp_arL E (b5 4) 12 (fun _ => 0)), (mp_arI E (b5 5) 0 6 (fun _ => 0)), (mp_arI E (b5 6) 0 6 (fun _ => 0)), (mp_arI E (b5 7) 0 6 (fun _ => 0)), (mp_arI E (b5 8) 0 10 (fun _ => 0)), (mp_arI E (b5 9) 0 10 (fun _ => 0)), (mp_arI E (b5 10) 0 10 (fun _ => 0)), (mp_arI E (b5 11) 0 10 (fun _ => 0)), (mp_arI E (b5 12) 0 10 (fun _ => 0)), (mp_arI E (b5 13) 0 10 (fun _ => 0)), (mp_arI E (b5 14) 0 60 (fun _ => 0)), (mp_ob0 q7 (b11 1) 0 (b11 14) (b11 15) (b11 16) (b11 17) (b11 18) (b11 19)), (mp_ob7 (b11 1) 0 0 0 0 0 0 (b11 2) (b11 3) (b11 4) (b11 5) (b11 6) (b11 7) (b11 8) (b11 9) (b11 10) (b11 11) (b11 12) (b11 13)), (mp_arI E (b11 2) 0 36 (fun _ => 0)), (mp_arL E (b11 3) 12 (fun _ => 0)), (mp_arI E (b11 4) 0 6 (fun _ => 0)), (mp_arI E (b11 5) 0 6 (fun _ => 0)), (mp_arI E (b11 6) 0 6 (fun _ => 0)), (mp_arI E (b11 7) 0 10 (fun _ => 0)), (mp_arI E (b11 8) 0 10 (fun _ => 0)), (mp_arI E (b11 9) 0 10 (fun _ => 0)), (mp_arI E (b11 10) 0 10 (fun _ => 0)), (mp_arI E (b11 11) 0 10 (fun _ => 0)), (mp_arI E (b11 12) 0 10 (fun _ => 0)), (mp_arI E (b11 13) 0 60 (fun _ => 0)), (mp_arI E (b11 14) 0 6 (fun _ => 0)), (mp_arI E (b11 15) 0 6 (fun _ => 0)), (mp_arI E (b11 16) 0 6 (fun _ => 0)), (mp_arL E (b11 17) 20 (fun _ => 0)), (mp_arI E (b11 18) 0 10 (fun _ => 0)), (mp_arI E (b11 19) 0 10 (fun _ => 0)), (q13, .inl (E.2.2 4, 3, .inr (.inr (.inr (.inr (fun _ => none)))))), (mp_ob1 q14 (b18 1) 0 0 (b18 2)), (mp_arI E (b18 1) 0 36 (fun _ => 0)), (mp_arI E (b18 2) 0 3 (fun _ => 0)), (mp_ob2 q20 0 0 0 0 (b24 1) (b24 2) (b24 3) (b24 4) (b24 5) 0 0), (mp_arI E (b24 1) 0 432 (fun _ => 0)), (mp_arI E (b24 2) 0 432 (fun _ => 0)), (mp_arI E (b24 3) 0 72 (fun _ => 0)), (mp_arI E (b24 4) 0 78 (fun _ => 0)), (mp_arL E (b24 5) 78 (fun _ => 0)), (mp_ob4 q26 0 0 0 (b30 1) 0 0 0 0 0 (b30 2)), (mp_arI E (b30 1) 0 11 (fun _ => 0)), (mp_arI E (b30 2) 0 132 (fun _ => 0)), (q32, .inr (6, [.int 0, .null, .null]))]
  show mp_W E X 1 71 [(0, .ref h0)] [.ref q32, .ref h0] w18_ 49 3389
  refine mp_run mp_k_cX9_init_ok hF mp_tabX9_ok [mp_i .dup] (by decide +kernel) ?_
  refine And.intro rfl ?_
  show mp_W E X 1 72 [(0, .ref h0)] [.ref q32, .ref q32, .ref h0] w18_ 49 3389
  refine mp_callI hF (As := []) (rest := [.ref q32, .ref h0]) (wr := w17_) (k_Threat E q32) mp_lkX9_52 [49] [0, 1, 2, 3, 4, 5, 6, 7, 8, 9, 10, 11, 12, 13, 14, 15, 16, 17, 18, 19, 20, 21, 22, 23, 24, 25, 26, 27, 28, 29, 30, 31, 32, 33, 34, 35, 36, 37, 38, 39, 40, 41, 42, 43, 44, 45, 46, 47, 48] rfl rfl rfl rfl rfl ⟨(Nat.le_of_ble_eq_true rfl), (Nat.le_of_ble_eq_true rfl), (Nat.le_of_ble_eq_true rfl), (Nat.le_of_ble_eq_true rfl)⟩ (Nat.le_of_ble_eq_true rfl) (by first | exact mp_fd_ok mp_k_cX9_init_ok (by decide +kernel) | decide +kernel) (fun v33 w34 h35 => ?_)
  obtain ⟨rfl, b36, g37, h38, rfl⟩ := h35
  clear h38
  let w19_ : va_W := [(h0, .inr (9, [.ref q1, .ref q7, .ref q13, .ref q14, .ref q20, .ref q26, .null, .null, .null])), (mp_ob3 q1 (b5 1) 0 (b5 2) 0 (-1) 0 0 0 0 0), (mp_arI E (b5 1) 1 1600 (fun _ => 0)), (mp_ob7 (b5 2) 0 0 0 0 0 0 (b5 3) (b5 4) (b5 5) (b5 6) (b5 7) (b5 8) (b5 9) (b5 10) (b5 11) (b5 12) (b5 13) (b5 14)), (mp_arI E (b5 3) 0 36 (fun _ => 0)), (mp_arL E (b5 4) 12 (fun _ => 0)), (mp_arI E (b5 5) 0 6 (fun _ => 0)), (mp_arI E (b5 6) 0 6 (fun _ => 0)), (mp_arI E (b5 7) 0 6 (fun _ => 0)), (mp_arI E (b5 8) 0 10 (fun _ => 0)), (mp_arI E (b5 9) 0 10 (fun _ => 0)), (mp_arI E (b5 10) 0 10 (fun _ => 0)), (mp_arI E (b5 11) 0 10 (fun _ => 0)), (mp_arI E (b5 12) 0 10 (fun _ => 0)), (mp_arI E (b5 13) 0 10 (fun _ => 0)), (mp_arI E (b5 14) 0 60 (fun _ => 0)), (mp_ob0 q7 (b11 1) 0 (b11 14) (b11 15) (b11 16) (b11 17) (b11 18) (b11 19)), (mp_ob7 (b11 1) 0 0 0 0 0 0 (b11 2) (b11 3) (b11 4) (b11 5) (b11 6) (b11 7) (b11 8) (b11 9) (b11 10) (b11 11) (b11 12) (b11 13)), (mp_arI E (b11 2) 0 36 (fun _ => 0)), (mp_arL E (b11 3) 12 (fun _ => 0)), (mp_arI E (b11 4) 0 6 (fun _ => 0)), (mp_arI E (b11 5) 0 6 (fun _ => 0)), (mp_arI E (b11 6) 0 6 (fun _ => 0)), (mp_arI E (b11 7) 0 10 (fun _ => 0)), (mp_arI E (b11 8) 0 10 (fun _ => 0)), (mp_arI E (b11 9) 0 10 (fun _ => 0)), (mp_arI E (b11 10) 0 10 (fun _ => 0)), (mp_arI E (b11 11) 0 10 (fun _ => 0)), (mp_arI E (b11 12) 0 10 (fun _ => 0)), (mp_arI E (b11 13) 0 60 (fun _ => 0)), (mp_arI E (b11 14) 0 6 (fun _ => 0)), (mp_arI E (b11 15) 0 6 (fun _ => 0)), (mp_arI E (b11 16) 0 6 (fun _ => 0)), (mp_arL E (b11 17) 20 (fun _ => 0)), (mp_arI E (b11 18) 0 10 (fun _ => 0)), (mp_arI E (b11 19) 0 10 (fun _ => 0)), (q13, .inl (E.2.2 4, 3, .inr (.inr (.inr (.inr (fun _ => none)))))), (mp_ob1 q14 (b18 1) 0 0 (b18 2)), (mp_arI E (b18 1) 0 36 (fun _ => 0)), (mp_arI E (b18 2) 0 3 (fun _ => 0)), (mp_ob2 q20 0 0 0 0 (b24 1) (b24 2) (b24 3) (b24 4) (b24 5) 0 0), (mp_arI E (b24 1) 0 432 (fun _ => 0)), (mp_arI E (b24 2) 0 432 (fun _ => 0)), (mp_arI E (b24 3) 0 72 (fun _ => 0)), (mp_arI E (b24 4) 0 78 (fun _ => 0)), (mp_arL E (b24 5) 78 (fun _ => 0)), (mp_ob4 q26 0 0 0 (b30 1) 0 0 0 0 0 (b30 2)), (mp_arI E (b30 1) 0 11 (fun _ => 0)), (mp_arI E (b30 2) 0 132 (fun _ => 0)), (mp_ob6 q32 0 (b36 1) (b36 2)), (mp_arI E (b36 1) 0 8 (fun _ => 0)), (mp_arI E (b36 2) 0 100 g37)]
  show mp_W E X 1 75 [(0, .ref h0)] [.ref q32, .ref h0] w19_ 51 3497
  refine mp_run mp_k_cX9_init_ok hF mp_tabX9_ok [mp_h (.putfield 53) [42, 0]] (by decide +kernel) ?_
  refine And.intro rfl (And.intro rfl (And.intro rfl (And.intro rfl (And.intro (Nat.le_of_ble_eq_true rfl) ?_))))
  let w20_ : va_W := [(h0, .inr (9, [.ref q1, .ref q7, .ref q13, .ref q14, .ref q20, .ref q26, .ref q32, .null, .null])), (mp_ob3 q1 (b5 1) 0 (b5 2) 0 (-1) 0 0 0 0 0), (mp_arI E (b5 1) 1 1600 (fun _ => 0)), (mp_ob7 (b5 2) 0 0 0 0 0 0 (b5 3) (b5 4) (b5 5) (b5 6) (b5 7) (b5 8) (b5 9) (b5 10) (b5 11) (b5 12) (b5 13) (b5 14)), (mp_arI E (b5 3) 0 36 (fun _ => 0)), (mp_arL E (b5 4) 12 (fun _ => 0)), (mp_arI E (b5 5) 0 6 (fun _ => 0)), (mp_arI E (b5 6) 0 6 (fun _ => 0)), (mp_arI E (b5 7) 0 6 (fun _ => 0)), (mp_arI E (b5 8) 0 10 (fun _ => 0)), (mp_arI E (b5 9) 0 10 (fun _ => 0)), (mp_arI E (b5 10) 0 10 (fun _ => 0)), (mp_arI E (b5 11) 0 10 (fun _ => 0)), (mp_arI E (b5 12) 0 10 (fun _ => 0)), (mp_arI E (b5 13) 0 10 (fun _ => 0)), (mp_arI E (b5 14) 0 60 (fun _ => 0)), (mp_ob0 q7 (b11 1) 0 (b11 14) (b11 15) (b11 16) (b11 17) (b11 18) (b11 19)), (mp_ob7 (b11 1) 0 0 0 0 0 0 (b11 2) (b11 3) (b11 4) (b11 5) (b11 6) (b11 7) (b11 8) (b11 9) (b11 10) (b11 11) (b11 12) (b11 13)), (mp_arI E (b11 2) 0 36 (fun _ => 0)), (mp_arL E (b11 3) 12 (fun _ => 0)), (mp_arI E (b11 4) 0 6 (fun _ => 0)), (mp_arI E (b11 5) 0 6 (fun _ => 0)), (mp_arI E (b11 6) 0 6 (fun _ => 0)), (mp_arI E (b11 7) 0 10 (fun _ => 0)), (mp_arI E (b11 8) 0 10 (fun _ => 0)), (mp_arI E (b11 9) 0 10 (fun _ => 0)), (mp_arI E (b11 10) 0 10 (fun _ => 0)), (mp_arI E (b11 11) 0 10 (fun _ => 0)), (mp_arI E (b11 12) 0 10 (fun _ => 0)), (mp_arI E (b11 13) 0 60 (fun _ => 0)), (mp_arI E (b11 14) 0 6 (fun _ => 0)), (mp_arI E (b11 15) 0 6 (fun _ => 0)), (mp_arI E (b11 16) 0 6 (fun _ => 0)), (mp_arL E (b11 17) 20 (fun _ => 0)), (mp_arI E (b11 18) 0 10 (fun _ => 0)), (mp_arI E (b11 19) 0 10 (fun _ => 0)), (q13, .inl (E.2.2 4, 3, .inr (.inr (.inr (.inr (fun _ => none)))))), (mp_ob1 q14 (b18 1) 0 0 (b18 2)), (mp_arI E (b18 1) 0 36 (fun _ => 0)), (mp_arI E (b18 2) 0 3 (fun _ => 0)), (mp_ob2 q20 0 0 0 0 (b24 1) (b24 2) (b24 3) (b24 4) (b24 5) 0 0), (mp_arI E (b24 1) 0 432 (fun _ => 0)), (mp_arI E (b24 2) 0 432 (fun _ => 0)), (mp_arI E (b24 3) 0 72 (fun _ => 0)), (mp_arI E (b24 4) 0 78 (fun _ => 0)), (mp_arL E (b24 5) 78 (fun _ => 0)), (mp_ob4 q26 0 0 0 (b30 1) 0 0 0 0 0 (b30 2)), (mp_arI E (b30 1) 0 11 (fun _ => 0)), (mp_arI E (b30 2) 0 132 (fun _ => 0)), (mp_ob6 q32 0 (b36 1) (b36 2)), (mp_arI E (b36 1) 0 8 (fun _ => 0)), (mp_arI E (b36 2) 0 100 g37)]
  show mp_W E X 1 78 [(0, .ref h0)] [] w20_ 51 3497
  refine mp_run mp_k_cX9_init_ok hF mp_tabX9_ok [mp_i (.aload_n 0)] (by decide +kernel) ?_
  show mp_W E X 1 79 [(0, .ref h0)] [.ref h0] w20_ 51 3497
  refine mp_new hF (mp_lnX9_57) ⟨(Nat.le_of_ble_eq_true rfl), (Nat.le_of_ble_eq_true rfl)⟩ (by first | exact mp_fd_ok mp_k_cX9_init_ok (by decide +kernel) | decide +kernel) (fun q39 => ?_)
  let w21_ : va_W := [(h0, .inr (9, [.ref q1, .ref q7, .ref q13, .ref q14, .ref q20, .ref q26, .ref q32, .null, .null])), (mp_ob3 q1 (b5 1) 0 (b5 2) 0 (-1) 0 0 0 0 0), (mp_arI E (b5 1) 1 1600 (fun _ => 0)), (mp_ob7 (b5 2) 0 0 0 0 0 0 (b5 3) (b5 4) (b5 5) (b5 6) (b5 7) (b5 8) (b5 9) (b5 10) (b5 11) (b5 12) (b5 13) (b5 14)), (mp_arI E (b5 3) 0 36 (fun _ => 0)), (mp_arL E (b5 4) 12 (fun _ => 0)), (mp_arI E (b5 5) 0 6 (fun _ => 0)), (mp_arI E (b5 6) 0 6 (fun _ => 0)), (mp_arI E (b5 7) 0 6 (fun _ => 0)), (mp_arI E (b5 8) 0 10 (fun _ => 0)), (mp_arI E (b5 9) 0 10 (fun _ => 0)), (mp_arI E (b5 10) 0 10 (fun _ => 0)), (mp_arI E (b5 11) 0 10 (fun _ => 0)), (mp_arI E (b5 12) 0 10 (fun _ => 0)), (mp_arI E (b5 13) 0 10 (fun _ => 0)), (mp_arI E (b5 14) 0 60 (fun _ => 0)), (mp_ob0 q7 (b11 1) 0 (b11 14) (b11 15) (b11 16) (b11 17) (b11 18) (b11 19)), (mp_ob7 (b11 1) 0 0 0 0 0 0 (b11 2) (b11 3) (b11 4) (b11 5) (b11 6) (b11 7) (b11 8) (b11 9) (b11 10) (b11 11) (b11 12) (b11 13)), (mp_arI E (b11 2) 0 36 (fun _ => 0)), (mp_arL E (b11 3) 12 (fun _ => 0)), (mp_arI E (b11 4) 0 6 (fun _ => 0)), (mp_arI E (b11 5) 0 6 (fun _ => 0)), (mp_arI E (b11 6) 0 6 (fun _ => 0)), (mp_arI E (b11 7) 0 10 (fun _ => 0)), (mp_arI E (b11 8) 0 10 (fun _ => 0)), (mp_arI E (b11 9) 0 10 (fun _ => 0)), (mp_arI E (b11 10) 0 10 (fun _ => 0)), (mp_arI E (b11 11) 0 10 (fun _ => 0)), (mp_arI E (b11 12) 0 10 (fun _ => 0)), (mp_arI E (b11 13) 0 60 (fun _ => 0)), (mp_arI E (b11 14) 0 6 (fun _ => 0)), (mp_arI E (b11 15) 0 6 (fun _ => 0)), (mp_arI E (b11 16) 0 6 (fun _ => 0)), (mp_arL E (b11 17) 20 (fun _ => 0)), (mp_arI E (b11 18) 0 10 (fun _ => 0)), (mp_arI E (b11 19) 0 10 (fun _ => 0)), (q13, .inl (E.2.2 4, 3, .inr (.inr (.inr (.inr (fun _ => none)))))), (mp_ob1 q14 (b18 1) 0 0 (b18 2)), (mp_arI E (b18 1) 0 36 (fun _ => 0)), (mp_arI E (b18 2) 0 3 (fun _ => 0)), (mp_ob2 q20 0 0 0 0 (b24 1) (b24 2) (b24 3) (b24 4) (b24 5) 0 0), (mp_arI E (b24 1) 0 432 (fun _ => 0)), (mp_arI E (b24 2) 0 432 (fun _ => 0)), (mp_arI E (b24 3) 0 72 (fun _ => 0)), (mp_arI E (b24 4) 0 78 (fun _ => 0)), (mp_arL E (b24 5) 78 (fun _ => 0)), (mp_ob4 q26 0 0 0 (b30 1) 0 0 0 0 0 (b30 2)), (mp_arI E (b30 1) 0 11 (fun _ => 0)), (mp_arI E (b30 2) 0 132 (fun _ => 0)), (mp_ob6 q32 0 (b36 1) (b36 2)), (mp_arI E (b36 1) 0 8 (fun _ => 0)), (mp_arI E (b36 2) 0 100 g37), (q39, .inr (8, [.null, .int 0, .int 0]))]
  show mp_W E X 1 82 [(0, .ref h0)] [.ref q39, .ref h0] w21_ 52 3500
  refine mp_run mp_k_cX9_init_ok hF mp_tabX9_ok [mp_i .dup] (by decide +kernel) ?_
  refine And.intro rfl ?_
  show mp_W E X 1 83 [(0, .ref h0)] [.ref q39, .ref q39, .ref h0] w21_ 52 3500
  refine mp_callIN hF (As := []) (rest := [.ref q39, .ref h0]) (wr := w20_) (k_Years E q39) rfl (mp_gm (j := 2112) (by decide +kernel)) mp_lkX9_59 [52] [0, 1, 2, 3, 4, 5, 6, 7, 8, 9, 10, 11, 12, 13, 14, 15, 16, 17, 18, 19, 20, 21, 22, 23, 24, 25, 26, 27, 28, 29, 30, 31, 32, 33, 34, 35, 36, 37, 38, 39, 40, 41, 42, 43, 44, 45, 46, 47, 48, 49, 50, 51] rfl rfl rfl rfl rfl ⟨(Nat.le_of_ble_eq_true rfl), (Nat.le_of_ble_eq_true rfl), (Nat.le_of_ble_eq_true rfl), (Nat.le_of_ble_eq_true rfl)⟩ (Nat.le_of_ble_eq_true rfl) (by first | exact mp_fd_ok mp_k_cX9_init_ok (by decide +kernel) | decide +kernel) (fun v40 w41 h42 => ?_)
  obtain ⟨rfl, b43, h44, rfl⟩ := h42
  clear h44
  let w22_ : va_W := [(h0, .inr (9, [.ref q1, .ref q7, .ref q13, .ref q14, .ref q20, .ref q26, .ref q32, .null, .null])), (mp_ob3 q1 (b5 1) 0 (b5 2) 0 (-1) 0 0 0 0 0), (mp_arI E (b5 1) 1 1600 (fun _ => 0)), (mp_ob7 (b5 2) 0 0 0 0 0 0 (b5 3) (b5 4) (b5 5) (b5 6) (b5 7) (b5 8) (b5 9) (b5 10) (b5 11) (b5 12) (b5 13) (b5 14)), (mp_arI E (b5 3) 0 36 (fun _ => 0)), (mp_arL E (b5 4) 12 (fun _ => 0)), (mp_arI E (b5 5) 0 6 (fun _ => 0)), (mp_arI E (b5 6) 0 6 (fun _ => 0)), (mp_arI E (b5 7) 0 6 (fun _ => 0)), (mp_arI E (b5 8) 0 10 (fun _ => 0)), (mp_arI E (b5 9) 0 10 (fun _ => 0)), (mp_arI E (b5 10) 0 10 (fun _ => 0)), (mp_arI E (b5 11) 0 10 (fun _ => 0)), (mp_arI E (b5 12) 0 10 (fun _ => 0)), (mp_arI E (b5 13) 0 10 (fun _ => 0)), (mp_arI E (b5 14) 0 60 (fun _ => 0)), (mp_ob0 q7 (b11 1) 0 (b11 14) (b11 15) (b11 16) (b11 17) (b11 18) (b11 19)), (mp_ob7 (b11 1) 0 0 0 0 0 0 (b11 2) (b11 3) (b11 4) (b11 5) (b11 6) (b11 7) (b11 8) (b11 9) (b11 10) (b11 11) (b11 12) (b11 13)), (mp_arI E (b11 2) 0 36 (fun _ => 0)), (mp_arL E (b11 3) 12 (fun _ => 0)), (mp_arI E (b11 4) 0 6 (fun _ => 0)), (mp_arI E (b11 5) 0 6 (fun _ => 0)), (mp_arI E (b11 6) 0 6 (fun _ => 0)), (mp_arI E (b11 7) 0 10 (fun _ => 0)), (mp_arI E (b11 8) 0 10 (fun _ => 0)), (mp_arI E (b11 9) 0 10 (fun _ => 0)), (mp_arI E (b11 10) 0 10 (fun _ => 0)), (mp_arI E (b11 11) 0 10 (fun _ => 0)), (mp_arI E (b11 12) 0 10 (fun _ => 0)), (mp_arI E (b11 13) 0 60 (fun _ => 0)), (mp_arI E (b11 14) 0 6 (fun _ => 0)), (mp_arI E (b11 15) 0 6 (fun _ => 0)), (mp_arI E (b11 16) 0 6 (fun _ => 0)), (mp_arL E (b11 17) 20 (fun _ => 0)), (mp_arI E (b11 18) 0 10 (fun _ => 0)), (mp_arI E (b11 19) 0 10 (fun _ => 0)), (q13, .inl (E.2.2 4, 3, .inr (.inr (.inr (.inr (fun _ => none)))))), (mp_ob1 q14 (b18 1) 0 0 (b18 2)), (mp_arI E (b18 1) 0 36 (fun _ => 0)), (mp_arI E (b18 2) 0 3 (fun _ => 0)), (mp_ob2 q20 0 0 0 0 (b24 1) (b24 2) (b24 3) (b24 4) (b24 5) 0 0), (mp_arI E (b24 1) 0 432 (fun _ => 0)), (mp_arI E (b24 2) 0 432 (fun _ => 0)), (mp_arI E (b24 3) 0 72 (fun _ => 0)), (mp_arI E (b24 4) 0 78 (fun _ => 0)), (mp_arL E (b24 5) 78 (fun _ => 0)), (mp_ob4 q26 0 0 0 (b30 1) 0 0 0 0 0 (b30 2)), (mp_arI E (b30 1) 0 11 (fun _ => 0)), (mp_arI E (b30 2) 0 132 (fun _ => 0)), (mp_ob6 q32 0 (b36 1) (b36 2)), (mp_arI E (b36 1) 0 8 (fun _ => 0)), (mp_arI E (b36 2) 0 100 g37), (mp_ob8 q39 (b43 1) 0 0), (mp_arI E (b43 1) 0 10 (fun _ => 0))]
  show mp_W E X 1 86 [(0, .ref h0)] [.ref q39, .ref h0] w22_ 53 3510
  refine mp_run mp_k_cX9_init_ok hF mp_tabX9_ok [mp_h (.putfield 60) [43, 0]] (by decide +kernel) ?_
  refine And.intro rfl (And.intro rfl (And.intro rfl (And.intro rfl (And.intro (Nat.le_of_ble_eq_true rfl) ?_))))
  let w23_ : va_W := [(h0, .inr (9, [.ref q1, .ref q7, .ref q13, .ref q14, .ref q20, .ref q26, .ref q32, .ref q39, .null])), (mp_ob3 q1 (b5 1) 0 (b5 2) 0 (-1) 0 0 0 0 0), (mp_arI E (b5 1) 1 1600 (fun _ => 0)), (mp_ob7 (b5 2) 0 0 0 0 0 0 (b5 3) (b5 4) (b5 5) (b5 6) (b5 7) (b5 8) (b5 9) (b5 10) (b5 11) (b5 12) (b5 13) (b5 14)), (mp_arI E (b5 3) 0 36 (fun _ => 0)), (mp_arL E (b5 4) 12 (fun _ => 0)), (mp_arI E (b5 5) 0 6 (fun _ => 0)), (mp_arI E (b5 6) 0 6 (fun _ => 0)), (mp_arI E (b5 7) 0 6 (fun _ => 0)), (mp_arI E (b5 8) 0 10 (fun _ => 0)), (mp_arI E (b5 9) 0 10 (fun _ => 0)), (mp_arI E (b5 10) 0 10 (fun _ => 0)), (mp_arI E (b5 11) 0 10 (fun _ => 0)), (mp_arI E (b5 12) 0 10 (fun _ => 0)), (mp_arI E (b5 13) 0 10 (fun _ => 0)), (mp_arI E (b5 14) 0 60 (fun _ => 0)), (mp_ob0 q7 (b11 1) 0 (b11 14) (b11 15) (b11 16) (b11 17) (b11 18) (b11 19)), (mp_ob7 (b11 1) 0 0 0 0 0 0 (b11 2) (b11 3) (b11 4) (b11 5) (b11 6) (b11 7) (b11 8) (b11 9) (b11 10) (b11 11) (b11 12) (b11 13)), (mp_arI E (b11 2) 0 36 (fun _ => 0)), (mp_arL E (b11 3) 12 (fun _ => 0)), (mp_arI E (b11 4) 0 6 (fun _ => 0)), (mp_arI E (b11 5) 0 6 (fun _ => 0)), (mp_arI E (b11 6) 0 6 (fun _ => 0)), (mp_arI E (b11 7) 0 10 (fun _ => 0)), (mp_arI E (b11 8) 0 10 (fun _ => 0)), (mp_arI E (b11 9) 0 10 (fun _ => 0)), (mp_arI E (b11 10) 0 10 (fun _ => 0)), (mp_arI E (b11 11) 0 10 (fun _ => 0)), (mp_arI E (b11 12) 0 10 (fun _ => 0)), (mp_arI E (b11 13) 0 60 (fun _ => 0)), (mp_arI E (b11 14) 0 6 (fun _ => 0)), (mp_arI E (b11 15) 0 6 (fun _ => 0)), (mp_arI E (b11 16) 0 6 (fun _ => 0)), (mp_arL E (b11 17) 20 (fun _ => 0)), (mp_arI E (b11 18) 0 10 (fun _ => 0)), (mp_arI E (b11 19) 0 10 (fun _ => 0)), (q13, .inl (E.2.2 4, 3, .inr (.inr (.inr (.inr (fun _ => none)))))), (mp_ob1 q14 (b18 1) 0 0 (b18 2)), (mp_arI E (b18 1) 0 36 (fun _ => 0)), (mp_arI E (b18 2) 0 3 (fun _ => 0)), (mp_ob2 q20 0 0 0 0 (b24 1) (b24 2) (b24 3) (b24 4) (b24 5) 0 0), (mp_arI E (b24 1) 0 432 (fun _ => 0)), (mp_arI E (b24 2) 0 432 (fun _ => 0)), (mp_arI E (b24 3) 0 72 (fun _ => 0)), (mp_arI E (b24 4) 0 78 (fun _ => 0)), (mp_arL E (b24 5) 78 (fun _ => 0)), (mp_ob4 q26 0 0 0 (b30 1) 0 0 0 0 0 (b30 2)), (mp_arI E (b30 1) 0 11 (fun _ => 0)), (mp_arI E (b30 2) 0 132 (fun _ => 0)), (mp_ob6 q32 0 (b36 1) (b36 2)), (mp_arI E (b36 1) 0 8 (fun _ => 0)), (mp_arI E (b36 2) 0 100 g37), (mp_ob8 q39 (b43 1) 0 0), (mp_arI E (b43 1) 0 10 (fun _ => 0))]
  show mp_W E X 1 89 [(0, .ref h0)] [] w23_ 53 3510
  refine mp_run mp_k_cX9_init_ok hF mp_tabX9_ok [mp_i (.aload_n 0)] (by decide +kernel) ?_
  show mp_W E X 1 90 [(0, .ref h0)] [.ref h0] w23_ 53 3510
  refine mp_new hF (mp_lnX9_64) ⟨(Nat.le_of_ble_eq_true rfl), (Nat.le_of_ble_eq_true rfl)⟩ (by first | exact mp_fd_ok mp_k_cX9_init_ok (by decide +kernel) | decide +kernel) (fun q45 => ?_)
  let w24_ : va_W := [(h0, .inr (9, [.ref q1, .ref q7, .ref q13, .ref q14, .ref q20, .ref q26, .ref q32, .ref q39, .null])), (mp_ob3 q1 (b5 1) 0 (b5 2) 0 (-1) 0 0 0 0 0), (mp_arI E (b5 1) 1 1600 (fun _ => 0)), (mp_ob7 (b5 2) 0 0 0 0 0 0 (b5 3) (b5 4) (b5 5) (b5 6) (b5 7) (b5 8) (b5 9) (b5 10) (b5 11) (b5 12) (b5 13) (b5 14)), (mp_arI E (b5 3) 0 36 (fun _ => 0)), (mp_arL E (b5 4) 12 (fun _ => 0)), (mp_arI E (b5 5) 0 6 (fun _ => 0)), (mp_arI E (b5 6) 0 6 (fun _ => 0)), (mp_arI E (b5 7) 0 6 (fun _ => 0)), (mp_arI E (b5 8) 0 10 (fun _ => 0)), (mp_arI E (b5 9) 0 10 (fun _ => 0)), (mp_arI E (b5 10) 0 10 (fun _ => 0)), (mp_arI E (b5 11) 0 10 (fun _ => 0)), (mp_arI E (b5 12) 0 10 (fun _ => 0)), (mp_arI E (b5 13) 0 10 (fun _ => 0)), (mp_arI E (b5 14) 0 60 (fun _ => 0)), (mp_ob0 q7 (b11 1) 0 (b11 14) (b11 15) (b11 16) (b11 17) (b11 18) (b11 19)), (mp_ob7 (b11 1) 0 0 0 0 0 0 (b11 2) (b11 3) (b11 4) (b11 5) (b11 6) (b11 7) (b11 8) (b11 9) (b11 10) (b11 11) (b11 12) (b11 13)), (mp_arI E (b11 2) 0 36 (fun _ => 0)), (mp_arL E (b11 3) 12 (fun _ => 0)), (mp_arI E (b11 4) 0 6 (fun _ => 0)), (mp_arI E (b11 5) 0 6 (fun _ => 0)), (mp_arI E (b11 6) 0 6 (fun _ => 0)), (mp_arI E (b11 7) 0 10 (fun _ => 0)), (mp_arI E (b11 8) 0 10 (fun _ => 0)), (mp_arI E (b11 9) 0 10 (fun _ => 0)), (mp_arI E (b11 10) 0 10 (fun _ => 0)), (mp_arI E (b11 11) 0 10 (fun _ => 0)), (mp_arI E (b11 12) 0 10 (fun _ => 0)), (mp_arI E (b11 13) 0 60 (fun _ => 0)), (mp_arI E (b11 14) 0 6 (fun _ => 0)), (mp_arI E (b11 15) 0 6 (fun _ => 0)), (mp_arI E (b11 16) 0 6 (fun _ => 0)), (mp_arL E (b11 17) 20 (fun _ => 0)), (mp_arI E (b11 18) 0 10 (fun _ => 0)), (mp_arI E (b11 19) 0 10 (fun _ => 0)), (q13, .inl (E.2.2 4, 3, .inr (.inr (.inr (.inr (fun _ => none)))))), (mp_ob1 q14 (b18 1) 0 0 (b18 2)), (mp_arI E (b18 1) 0 36 (fun _ => 0)), (mp_arI E (b18 2) 0 3 (fun _ => 0)), (mp_ob2 q20 0 0 0 0 (b24 1) (b24 2) (b24 3) (b24 4) (b24 5) 0 0), (mp_arI E (b24 1) 0 432 (fun _ => 0)), (mp_arI E (b24 2) 0 432 (fun _ => 0)), (mp_arI E (b24 3) 0 72 (fun _ => 0)), (mp_arI E (b24 4) 0 78 (fun _ => 0)), (mp_arL E (b24 5) 78 (fun _ => 0)), (mp_ob4 q26 0 0 0 (b30 1) 0 0 0 0 0 (b30 2)), (mp_arI E (b30 1) 0 11 (fun _ => 0)), (mp_arI E (b30 2) 0 132 (fun _ => 0)), (mp_ob6 q32 0 (b36 1) (b36 2)), (mp_arI E (b36 1) 0 8 (fun _ => 0)), (mp_arI E (b36 2) 0 100 g37), (mp_ob8 q39 (b43 1) 0 0), (mp_arI E (b43 1) 0 10 (fun _ => 0)), (q45, .inr (5, [.null, .null, .null]))]
  show mp_W E X 1 93 [(0, .ref h0)] [.ref q45, .ref h0] w24_ 54 3513
  refine mp_run mp_k_cX9_init_ok hF mp_tabX9_ok [mp_i .dup] (by decide +kernel) ?_
  refine And.intro rfl ?_
  show mp_W E X 1 94 [(0, .ref h0)] [.ref q45, .ref q45, .ref h0] w24_ 54 3513
  refine mp_callI hF (As := []) (rest := [.ref q45, .ref h0]) (wr := w23_) (k_Slots E q45) mp_lkX9_66 [54] [0, 1, 2, 3, 4, 5, 6, 7, 8, 9, 10, 11, 12, 13, 14, 15, 16, 17, 18, 19, 20, 21, 22, 23, 24, 25, 26, 27, 28, 29, 30, 31, 32, 33, 34, 35, 36, 37, 38, 39, 40, 41, 42, 43, 44, 45, 46, 47, 48, 49, 50, 51, 52, 53] rfl rfl rfl rfl rfl ⟨(Nat.le_of_ble_eq_true rfl), (Nat.le_of_ble_eq_true rfl), (Nat.le_of_ble_eq_true rfl), (Nat.le_of_ble_eq_true rfl)⟩ (Nat.le_of_ble_eq_true rfl) (by first | exact mp_fd_ok mp_k_cX9_init_ok (by decide +kernel) | decide +kernel) (fun v46 w47 h48 => ?_)
  obtain ⟨rfl, b49, g50, h52, f51, rfl⟩ := h48
  clear h52
  let w25_ : va_W := [(h0, .inr (9, [.ref q1, .ref q7, .ref q13, .ref q14, .ref q20, .ref q26, .ref q32, .ref q39, .null])), (mp_ob3 q1 (b5 1) 0 (b5 2) 0 (-1) 0 0 0 0 0), (mp_arI E (b5 1) 1 1600 (fun _ => 0)), (mp_ob7 (b5 2) 0 0 0 0 0 0 (b5 3) (b5 4) (b5 5) (b5 6) (b5 7) (b5 8) (b5 9) (b5 10) (b5 11) (b5 12) (b5 13) (b5 14)), (mp_arI E (b5 3) 0 36 (fun _ => 0)), (mp_arL E (b5 4) 12 (fun _ => 0)), (mp_arI E (b5 5) 0 6 (fun _ => 0)), (mp_arI E (b5 6) 0 6 (fun _ => 0)), (mp_arI E (b5 7) 0 6 (fun _ => 0)), (mp_arI E (b5 8) 0 10 (fun _ => 0)), (mp_arI E (b5 9) 0 10 (fun _ => 0)), (mp_arI E (b5 10) 0 10 (fun _ => 0)), (mp_arI E (b5 11) 0 10 (fun _ => 0)), (mp_arI E (b5 12) 0 10 (fun _ => 0)), (mp_arI E (b5 13) 0 10 (fun _ => 0)), (mp_arI E (b5 14) 0 60 (fun _ => 0)), (mp_ob0 q7 (b11 1) 0 (b11 14) (b11 15) (b11 16) (b11 17) (b11 18) (b11 19)), (mp_ob7 (b11 1) 0 0 0 0 0 0 (b11 2) (b11 3) (b11 4) (b11 5) (b11 6) (b11 7) (b11 8) (b11 9) (b11 10) (b11 11) (b11 12) (b11 13)), (mp_arI E (b11 2) 0 36 (fun _ => 0)), (mp_arL E (b11 3) 12 (fun _ => 0)), (mp_arI E (b11 4) 0 6 (fun _ => 0)), (mp_arI E (b11 5) 0 6 (fun _ => 0)), (mp_arI E (b11 6) 0 6 (fun _ => 0)), (mp_arI E (b11 7) 0 10 (fun _ => 0)), (mp_arI E (b11 8) 0 10 (fun _ => 0)), (mp_arI E (b11 9) 0 10 (fun _ => 0)), (mp_arI E (b11 10) 0 10 (fun _ => 0)), (mp_arI E (b11 11) 0 10 (fun _ => 0)), (mp_arI E (b11 12) 0 10 (fun _ => 0)), (mp_arI E (b11 13) 0 60 (fun _ => 0)), (mp_arI E (b11 14) 0 6 (fun _ => 0)), (mp_arI E (b11 15) 0 6 (fun _ => 0)), (mp_arI E (b11 16) 0 6 (fun _ => 0)), (mp_arL E (b11 17) 20 (fun _ => 0)), (mp_arI E (b11 18) 0 10 (fun _ => 0)), (mp_arI E (b11 19) 0 10 (fun _ => 0)), (q13, .inl (E.2.2 4, 3, .inr (.inr (.inr (.inr (fun _ => none)))))), (mp_ob1 q14 (b18 1) 0 0 (b18 2)), (mp_arI E (b18 1) 0 36 (fun _ => 0)), (mp_arI E (b18 2) 0 3 (fun _ => 0)), (mp_ob2 q20 0 0 0 0 (b24 1) (b24 2) (b24 3) (b24 4) (b24 5) 0 0), (mp_arI E (b24 1) 0 432 (fun _ => 0)), (mp_arI E (b24 2) 0 432 (fun _ => 0)), (mp_arI E (b24 3) 0 72 (fun _ => 0)), (mp_arI E (b24 4) 0 78 (fun _ => 0)), (mp_arL E (b24 5) 78 (fun _ => 0)), (mp_ob4 q26 0 0 0 (b30 1) 0 0 0 0 0 (b30 2)), (mp_arI E (b30 1) 0 11 (fun _ => 0)), (mp_arI E (b30 2) 0 132 (fun _ => 0)), (mp_ob6 q32 0 (b36 1) (b36 2)), (mp_arI E (b36 1) 0 8 (fun _ => 0)), (mp_arI E (b36 2) 0 100 g37), (mp_ob8 q39 (b43 1) 0 0), (mp_arI E (b43 1) 0 10 (fun _ => 0)), (mp_ob5 q45 (b49 1) (b49 2) (b49 3)), (mp_arL E (b49 1) 240 (fun _ => 0)), (mp_arI E (b49 2) 0 4 (fun _ => 0)), (mp_arI E (b49 3) 0 4 g50)]
  show mp_W E X 1 97 [(0, .ref h0)] [.ref q45, .ref h0] w25_ 57 3761
  refine mp_run mp_k_cX9_init_ok hF mp_tabX9_ok [mp_h (.putfield 67) [44, 0]] (by decide +kernel) ?_
  refine And.intro rfl (And.intro rfl (And.intro rfl (And.intro rfl (And.intro (Nat.le_of_ble_eq_true rfl) ?_))))
  let w26_ : va_W := [(mp_ob9 h0 q1 q7 q13 q14 q20 q26 q32 q39 q45), (mp_ob3 q1 (b5 1) 0 (b5 2) 0 (-1) 0 0 0 0 0), (mp_arI E (b5 1) 1 1600 (fun _ => 0)), (mp_ob7 (b5 2) 0 0 0 0 0 0 (b5 3) (b5 4) (b5 5) (b5 6) (b5 7) (b5 8) (b5 9) (b5 10) (b5 11) (b5 12) (b5 13) (b5 14)), (mp_arI E (b5 3) 0 36 (fun _ => 0)), (mp_arL E (b5 4) 12 (fun _ => 0)), (mp_arI E (b5 5) 0 6 (fun _ => 0)), (mp_arI E (b5 6) 0 6 (fun _ => 0)), (mp_arI E (b5 7) 0 6 (fun _ => 0)), (mp_arI E (b5 8) 0 10 (fun _ => 0)), (mp_arI E (b5 9) 0 10 (fun _ => 0)), (mp_arI E (b5 10) 0 10 (fun _ => 0)), (mp_arI E (b5 11) 0 10 (fun _ => 0)), (mp_arI E (b5 12) 0 10 (fun _ => 0)), (mp_arI E (b5 13) 0 10 (fun _ => 0)), (mp_arI E (b5 14) 0 60 (fun _ => 0)), (mp_ob0 q7 (b11 1) 0 (b11 14) (b11 15) (b11 16) (b11 17) (b11 18) (b11 19)), (mp_ob7 (b11 1) 0 0 0 0 0 0 (b11 2) (b11 3) (b11 4) (b11 5) (b11 6) (b11 7) (b11 8) (b11 9) (b11 10) (b11 11) (b11 12) (b11 13)), (mp_arI E (b11 2) 0 36 (fun _ => 0)), (mp_arL E (b11 3) 12 (fun _ => 0)), (mp_arI E (b11 4) 0 6 (fun _ => 0)), (mp_arI E (b11 5) 0 6 (fun _ => 0)), (mp_arI E (b11 6) 0 6 (fun _ => 0)), (mp_arI E (b11 7) 0 10 (fun _ => 0)), (mp_arI E (b11 8) 0 10 (fun _ => 0)), (mp_arI E (b11 9) 0 10 (fun _ => 0)), (mp_arI E (b11 10) 0 10 (fun _ => 0)), (mp_arI E (b11 11) 0 10 (fun _ => 0)), (mp_arI E (b11 12) 0 10 (fun _ => 0)), (mp_arI E (b11 13) 0 60 (fun _ => 0)), (mp_arI E (b11 14) 0 6 (fun _ => 0)), (mp_arI E (b11 15) 0 6 (fun _ => 0)), (mp_arI E (b11 16) 0 6 (fun _ => 0)), (mp_arL E (b11 17) 20 (fun _ => 0)), (mp_arI E (b11 18) 0 10 (fun _ => 0)), (mp_arI E (b11 19) 0 10 (fun _ => 0)), (q13, .inl (E.2.2 4, 3, .inr (.inr (.inr (.inr (fun _ => none)))))), (mp_ob1 q14 (b18 1) 0 0 (b18 2)), (mp_arI E (b18 1) 0 36 (fun _ => 0)), (mp_arI E (b18 2) 0 3 (fun _ => 0)), (mp_ob2 q20 0 0 0 0 (b24 1) (b24 2) (b24 3) (b24 4) (b24 5) 0 0), (mp_arI E (b24 1) 0 432 (fun _ => 0)), (mp_arI E (b24 2) 0 432 (fun _ => 0)), (mp_arI E (b24 3) 0 72 (fun _ => 0)), (mp_arI E (b24 4) 0 78 (fun _ => 0)), (mp_arL E (b24 5) 78 (fun _ => 0)), (mp_ob4 q26 0 0 0 (b30 1) 0 0 0 0 0 (b30 2)), (mp_arI E (b30 1) 0 11 (fun _ => 0)), (mp_arI E (b30 2) 0 132 (fun _ => 0)), (mp_ob6 q32 0 (b36 1) (b36 2)), (mp_arI E (b36 1) 0 8 (fun _ => 0)), (mp_arI E (b36 2) 0 100 g37), (mp_ob8 q39 (b43 1) 0 0), (mp_arI E (b43 1) 0 10 (fun _ => 0)), (mp_ob5 q45 (b49 1) (b49 2) (b49 3)), (mp_arL E (b49 1) 240 (fun _ => 0)), (mp_arI E (b49 2) 0 4 (fun _ => 0)), (mp_arI E (b49 3) 0 4 g50)]
  show mp_W E X 1 100 [(0, .ref h0)] [] w26_ 57 3761
  exact mp_vret hF hQ rfl (Nat.le_of_ble_eq_true rfl) (Nat.le_of_ble_eq_true rfl) [0, 1, 2, 3, 4, 5, 6, 7, 8, 9, 10, 11, 12, 13, 14, 15, 16, 17, 18, 19, 20, 21, 22, 23, 24, 25, 26, 27, 28, 29, 30, 31, 32, 33, 34, 35, 36, 37, 38, 39, 40, 41, 42, 43, 44, 45, 46, 47, 48, 49, 50, 51, 52, 53, 54, 55, 56, 57] (w' := w26_) rfl rfl ⟨rfl, fun k => ([h0, q1, (b5 1), (b5 2), (b5 3), (b5 4), (b5 5), (b5 6), (b5 7), (b5 8), (b5 9), (b5 10), (b5 11), (b5 12), (b5 13), (b5 14), q7, (b11 1), (b11 2), (b11 3), (b11 4), (b11 5), (b11 6), (b11 7), (b11 8), (b11 9), (b11 10), (b11 11), (b11 12), (b11 13), (b11 14), (b11 15), (b11 16), (b11 17), (b11 18), (b11 19), q13, q14, (b18 1), (b18 2), q20, (b24 1), (b24 2), (b24 3), (b24 4), (b24 5), q26, (b30 1), (b30 2), q32, (b36 1), (b36 2), q39, (b43 1), q45, (b49 1), (b49 2), (b49 3)] : List Nat).getD k 0, g37, g50, rfl, f51, rfl⟩ (by first | exact mp_fd_ok mp_k_cX9_init_ok (by decide +kernel) | decide +kernel)

