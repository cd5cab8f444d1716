set_option maxHeartbeats 4000000 in
set_option maxRecDepth 100000 in
theorem aX3_addFour_0 (E : mp_E) (a0 a1 a2 : Nat) (x0 : Int32) : mp_Ct E yX3_addFour cX3_addFour 3 none 0 0 0 0 [.ref a0, .int x0] [(a0, .inr (3, [.ref a1, .int 0, .ref a2, .int 0, .int (-1), .int 0, .int 0, .int 0, .int 0, .int 0])), (a1, .inl (E.2.2 1, 1600, .inl (fun _ => 0)))] (fun v w' => ∃ h0 : Nat → Int32, v = none ∧ w' = [(a0, .inr (3, [.ref a1, .int 4, .ref a2, .int 0, .int (-1), .int 0, .int 0, .int 0, .int 0, .int 0])), (a1, .inl (E.2.2 1, 1600, .inl h0))]) := by
  refine mp_met false (by decide) (by decide) (Nat.le_of_ble_eq_true rfl) (fun X hF hQ => ?_)
  have hF : mp_F E X (RX3, cX3_addFour, 3, (0, 0, 0, 0), none, false) := hF
  show mp_W E X 3 0 [(0, .ref a0), (1, .int x0)] [] [(a0, .inr (3, [.ref a1, .int 0, .ref a2, .int 0, .int (-1), .int 0, .int 0, .int 0, .int 0, .int 0])), (a1, .inl (E.2.2 1, 1600, .inl (fun _ => 0)))] 0 0
  refine mp_run hF mp_tabX3_ok [mp_c (.bipush 24) 24, mp_i (.istore_n 2), mp_i (.iload_n 2), mp_h (.ifCond .lt 42) [46]] (by decide +kernel) ?_
  refine And.intro (fun c1 => absurd c1 (by decide)) (fun _ => ?_)
  show mp_W E X 3 7 [(2, .int 24), (0, .ref a0), (1, .int x0)] [] [(a0, .inr (3, [.ref a1, .int 0, .ref a2, .int 0, .int (-1), .int 0, .int 0, .int 0, .int 0, .int 0])), (a1, .inl (E.2.2 1, 1600, .inl (fun _ => 0)))] 0 0
  refine mp_run hF mp_tabX3_ok [mp_i (.aload_n 0), mp_h (.getfield 26) [10, 0], mp_c (.sipush 1600) 1600, mp_h (.if_icmp .ge 32) [46]] (by decide +kernel) ?_
  refine And.intro rfl (And.intro rfl ?_)
  refine And.intro (fun c2 => absurd c2 (by decide)) (fun _ => ?_)
  show mp_W E X 3 17 [(2, .int 24), (0, .ref a0), (1, .int x0)] [] [(a0, .inr (3, [.ref a1, .int 0, .ref a2, .int 0, .int (-1), .int 0, .int 0, .int 0, .int 0, .int 0])), (a1, .inl (E.2.2 1, 1600, .inl (fun _ => 0)))] 0 0
  refine mp_run hF mp_tabX3_ok [mp_i (.aload_n 0), mp_h (.getfield 9) [9, 0], mp_i (.aload_n 0), mp_h (.getfield 26) [10, 0], mp_i (.iload_n 1), mp_i (.iload_n 2), mp_i .ishr, mp_i .i2b, mp_h .bastore [1]] (by decide +kernel) ?_
  refine And.intro rfl (And.intro rfl ?_)
  refine And.intro rfl (And.intro rfl ?_)
  intro z3 h4
  intro z6 h7
  refine And.intro rfl (And.intro rfl (And.intro (vp_in_iff.mpr (by decide)) ?_))
  intro g8 h9
  show mp_W E X 3 30 [(2, .int 24), (0, .ref a0), (1, .int x0)] [] [(a0, .inr (3, [.ref a1, .int 0, .ref a2, .int 0, .int (-1), .int 0, .int 0, .int 0, .int 0, .int 0])), (a1, .inl (E.2.2 1, 1600, .inl g8))] 0 0
  refine mp_run hF mp_tabX3_ok [mp_i (.aload_n 0), mp_i .dup, mp_h (.getfield 26) [10, 0], mp_c (.iconst 1) 1, mp_i .iadd, mp_h (.putfield 26) [10, 0]] (by decide +kernel) ?_
  refine And.intro rfl ?_
  refine And.intro rfl (And.intro rfl ?_)
  intro z10 h11
  obtain rfl : z10 = 1 := h11.trans (by decide)
  refine And.intro rfl (And.intro rfl (And.intro rfl (And.intro rfl (And.intro (Nat.le_of_ble_eq_true rfl) ?_))))
  show mp_W E X 3 40 [(2, .int 24), (0, .ref a0), (1, .int x0)] [] [(a0, .inr (3, [.ref a1, .int 1, .ref a2, .int 0, .int (-1), .int 0, .int 0, .int 0, .int 0, .int 0])), (a1, .inl (E.2.2 1, 1600, .inl g8))] 0 0
  refine mp_run hF mp_tabX3_ok [mp_c (.iinc 2 (-8)) (-8), mp_h (.goto (-40)) [3], mp_i (.iload_n 2), mp_h (.ifCond .lt 42) [46]] (by decide +kernel) ?_
  intro z12 h13
  obtain rfl : z12 = 16 := h13.trans (by decide)
  refine And.intro (fun c14 => absurd c14 (by decide)) (fun _ => ?_)
  show mp_W E X 3 7 [(2, .int 16), (0, .ref a0), (1, .int x0)] [] [(a0, .inr (3, [.ref a1, .int 1, .ref a2, .int 0, .int (-1), .int 0, .int 0, .int 0, .int 0, .int 0])), (a1, .inl (E.2.2 1, 1600, .inl g8))] 0 0
  refine mp_run hF mp_tabX3_ok [mp_i (.aload_n 0), mp_h (.getfield 26) [10, 0], mp_c (.sipush 1600) 1600, mp_h (.if_icmp .ge 32) [46]] (by decide +kernel) ?_
  refine And.intro rfl (And.intro rfl ?_)
  refine And.intro (fun c15 => absurd c15 (by decide)) (fun _ => ?_)
  show mp_W E X 3 17 [(2, .int 16), (0, .ref a0), (1, .int x0)] [] [(a0, .inr (3, [.ref a1, .int 1, .ref a2, .int 0, .int (-1), .int 0, .int 0, .int 0, .int 0, .int 0])), (a1, .inl (E.2.2 1, 1600, .inl g8))] 0 0
  refine mp_run hF mp_tabX3_ok [mp_i (.aload_n 0), mp_h (.getfield 9) [9, 0], mp_i (.aload_n 0), mp_h (.getfield 26) [10, 0], mp_i (.iload_n 1), mp_i (.iload_n 2), mp_i .ishr, mp_i .i2b, mp_h .bastore [1]] (by decide +kernel) ?_
  refine And.intro rfl (And.intro rfl ?_)
  refine And.intro rfl (And.intro rfl ?_)
  intro z16 h17
  intro z19 h20
  refine And.intro rfl (And.intro rfl (And.intro (vp_in_iff.mpr (by decide)) ?_))
  intro g21 h22
  show mp_W E X 3 30 [(2, .int 16), (0, .ref a0), (1, .int x0)] [] [(a0, .inr (3, [.ref a1, .int 1, .ref a2, .int 0, .int (-1), .int 0, .int 0, .int 0, .int 0, .int 0])), (a1, .inl (E.2.2 1, 1600, .inl g21))] 0 0
  refine mp_run hF mp_tabX3_ok [mp_i (.aload_n 0), mp_i .dup, mp_h (.getfield 26) [10, 0], mp_c (.iconst 1) 1, mp_i .iadd, mp_h (.putfield 26) [10, 0]] (by decide +kernel) ?_
  refine And.intro rfl ?_
  refine And.intro rfl (And.intro rfl ?_)
  intro z23 h24
  obtain rfl : z23 = 2 := h24.trans (by decide)
  refine And.intro rfl (And.intro rfl (And.intro rfl (And.intro rfl (And.intro (Nat.le_of_ble_eq_true rfl) ?_))))
  show mp_W E X 3 40 [(2, .int 16), (0, .ref a0), (1, .int x0)] [] [(a0, .inr (3, [.ref a1, .int 2, .ref a2, .int 0, .int (-1), .int 0, .int 0, .int 0, .int 0, .int 0])), (a1, .inl (E.2.2 1, 1600, .inl g21))] 0 0
  refine mp_run hF mp_tabX3_ok [mp_c (.iinc 2 (-8)) (-8), mp_h (.goto (-40)) [3], mp_i (.iload_n 2), mp_h (.ifCond .lt 42) [46]] (by decide +kernel) ?_
  intro z25 h26
  obtain rfl : z25 = 8 := h26.trans (by decide)
  refine And.intro (fun c27 => absurd c27 (by decide)) (fun _ => ?_)
  show mp_W E X 3 7 [(2, .int 8), (0, .ref a0), (1, .int x0)] [] [(a0, .inr (3, [.ref a1, .int 2, .ref a2, .int 0, .int (-1), .int 0, .int 0, .int 0, .int 0, .int 0])), (a1, .inl (E.2.2 1, 1600, .inl g21))] 0 0
  refine mp_run hF mp_tabX3_ok [mp_i (.aload_n 0), mp_h (.getfield 26) [10, 0], mp_c (.sipush 1600) 1600, mp_h (.if_icmp .ge 32) [46]] (by decide +kernel) ?_
  refine And.intro rfl (And.intro rfl ?_)
  refine And.intro (fun c28 => absurd c28 (by decide)) (fun _ => ?_)
  show mp_W E X 3 17 [(2, .int 8), (0, .ref a0), (1, .int x0)] [] [(a0, .inr (3, [.ref a1, .int 2, .ref a2, .int 0, .int (-1), .int 0, .int 0, .int 0, .int 0, .int 0])), (a1, .inl (E.2.2 1, 1600, .inl g21))] 0 0
  refine mp_run hF mp_tabX3_ok [mp_i (.aload_n 0), mp_h (.getfield 9) [9, 0], mp_i (.aload_n 0), mp_h (.getfield 26) [10, 0], mp_i (.iload_n 1), mp_i (.iload_n 2), mp_i .ishr, mp_i .i2b, mp_h .bastore [1]] (by decide +kernel) ?_
  refine And.intro rfl (And.intro rfl ?_)
  refine And.intro rfl (And.intro rfl ?_)
  intro z29 h30
  intro z32 h33
  refine And.intro rfl (And.intro rfl (And.intro (vp_in_iff.mpr (by decide)) ?_))
  intro g34 h35
  show mp_W E X 3 30 [(2, .int 8), (0, .ref a0), (1, .int x0)] [] [(a0, .inr (3, [.ref a1, .int 2, .ref a2, .int 0, .int (-1), .int 0, .int 0, .int 0, .int 0, .int 0])), (a1, .inl (E.2.2 1, 1600, .inl g34))] 0 0
  refine mp_run hF mp_tabX3_ok [mp_i (.aload_n 0), mp_i .dup, mp_h (.getfield 26) [10, 0], mp_c (.iconst 1) 1, mp_i .iadd, mp_h (.putfield 26) [10, 0]] (by decide +kernel) ?_
  refine And.intro rfl ?_
  refine And.intro rfl (And.intro rfl ?_)
  intro z36 h37
  obtain rfl : z36 = 3 := h37.trans (by decide)
  refine And.intro rfl (And.intro rfl (And.intro rfl (And.intro rfl (And.intro (Nat.le_of_ble_eq_true rfl) ?_))))
  show mp_W E X 3 40 [(2, .int 8), (0, .ref a0), (1, .int x0)] [] [(a0, .inr (3, [.ref a1, .int 3, .ref a2, .int 0, .int (-1), .int 0, .int 0, .int 0, .int 0, .int 0])), (a1, .inl (E.2.2 1, 1600, .inl g34))] 0 0
  refine mp_run hF mp_tabX3_ok [mp_c (.iinc 2 (-8)) (-8), mp_h (.goto (-40)) [3], mp_i (.iload_n 2), mp_h (.ifCond .lt 42) [46]] (by decide +kernel) ?_
  intro z38 h39
  obtain rfl : z38 = 0 := h39.trans (by decide)
  refine And.intro (fun c40 => absurd c40 (by decide)) (fun _ => ?_)
  show mp_W E X 3 7 [(2, .int 0), (0, .ref a0), (1, .int x0)] [] [(a0, .inr (3, [.ref a1, .int 3, .ref a2, .int 0, .int (-1), .int 0, .int 0, .int 0, .int 0, .int 0])), (a1, .inl (E.2.2 1, 1600, .inl g34))] 0 0
  refine mp_run hF mp_tabX3_ok [mp_i (.aload_n 0), mp_h (.getfield 26) [10, 0], mp_c (.sipush 1600) 1600, mp_h (.if_icmp .ge 32) [46]] (by decide +kernel) ?_
  refine And.intro rfl (And.intro rfl ?_)
  refine And.intro (fun c41 => absurd c41 (by decide)) (fun _ => ?_)
  show mp_W E X 3 17 [(2, .int 0), (0, .ref a0), (1, .int x0)] [] [(a0, .inr (3, [.ref a1, .int 3, .ref a2, .int 0, .int (-1), .int 0, .int 0, .int 0, .int 0, .int 0])), (a1, .inl (E.2.2 1, 1600, .inl g34))] 0 0
  refine mp_run hF mp_tabX3_ok [mp_i (.aload_n 0), mp_h (.getfield 9) [9, 0], mp_i (.aload_n 0), mp_h (.getfield 26) [10, 0], mp_i (.iload_n 1), mp_i (.iload_n 2), mp_i .ishr, mp_i .i2b, mp_h .bastore [1]] (by decide +kernel) ?_
  refine And.intro rfl (And.intro rfl ?_)
  refine And.intro rfl (And.intro rfl ?_)
  intro z42 h43
  intro z45 h46
  refine And.intro rfl (And.intro rfl (And.intro (vp_in_iff.mpr (by decide)) ?_))
  intro g47 h48
  show mp_W E X 3 30 [(2, .int 0), (0, .ref a0), (1, .int x0)] [] [(a0, .inr (3, [.ref a1, .int 3, .ref a2, .int 0, .int (-1), .int 0, .int 0, .int 0, .int 0, .int 0])), (a1, .inl (E.2.2 1, 1600, .inl g47))] 0 0
  refine mp_run hF mp_tabX3_ok [mp_i (.aload_n 0), mp_i .dup, mp_h (.getfield 26) [10, 0], mp_c (.iconst 1) 1, mp_i .iadd, mp_h (.putfield 26) [10, 0]] (by decide +kernel) ?_
  refine And.intro rfl ?_
  refine And.intro rfl (And.intro rfl ?_)
  intro z49 h50
  obtain rfl : z49 = 4 := h50.trans (by decide)
  refine And.intro rfl (And.intro rfl (And.intro rfl (And.intro rfl (And.intro (Nat.le_of_ble_eq_true rfl) ?_))))
  show mp_W E X 3 40 [(2, .int 0), (0, .ref a0), (1, .int x0)] [] [(a0, .inr (3, [.ref a1, .int 4, .ref a2, .int 0, .int (-1), .int 0, .int 0, .int 0, .int 0, .int 0])), (a1, .inl (E.2.2 1, 1600, .inl g47))] 0 0
  refine mp_run hF mp_tabX3_ok [mp_c (.iinc 2 (-8)) (-8), mp_h (.goto (-40)) [3], mp_i (.iload_n 2), mp_h (.ifCond .lt 42) [46]] (by decide +kernel) ?_
  intro z51 h52
  obtain rfl : z51 = (-8) := h52.trans (by decide)
  refine And.intro (fun _ => ?_) (fun c53 => absurd c53 (by decide))
  show mp_W E X 3 46 [(2, .int (-8)), (0, .ref a0), (1, .int x0)] [] [(a0, .inr (3, [.ref a1, .int 4, .ref a2, .int 0, .int (-1), .int 0, .int 0, .int 0, .int 0, .int 0])), (a1, .inl (E.2.2 1, 1600, .inl g47))] 0 0
  exact mp_vret hF hQ rfl (Nat.le_of_ble_eq_true rfl) (Nat.le_of_ble_eq_true rfl) [0, 1] (w' := [(a0, .inr (3, [.ref a1, .int 4, .ref a2, .int 0, .int (-1), .int 0, .int 0, .int 0, .int 0, .int 0])), (a1, .inl (E.2.2 1, 1600, .inl g47))]) rfl rfl ⟨g47, rfl, rfl⟩ (by decide +kernel)
set_option maxHeartbeats 4000000 in
set_option maxRecDepth 100000 in
theorem aX3_addFour_1 (E : mp_E) (a0 a1 a2 : Nat) (f0 : Nat → Int32) (x0 : Int32) : mp_Ct E yX3_addFour cX3_addFour 3 none 0 0 0 0 [.ref a0, .int x0] [(a0, .inr (3, [.ref a1, .int 4, .ref a2, .int 0, .int (-1), .int 0, .int 0, .int 0, .int 0, .int 0])), (a1, .inl (E.2.2 1, 1600, .inl f0))] (fun v w' => ∃ h0 : Nat → Int32, v = none ∧ w' = [(a0, .inr (3, [.ref a1, .int 8, .ref a2, .int 0, .int (-1), .int 0, .int 0, .int 0, .int 0, .int 0])), (a1, .inl (E.2.2 1, 1600, .inl h0))]) := by
  refine mp_met false (by decide) (by decide) (Nat.le_of_ble_eq_true rfl) (fun X hF hQ => ?_)
  have hF : mp_F E X (RX3, cX3_addFour, 3, (0, 0, 0, 0), none, false) := hF
  show mp_W E X 3 0 [(0, .ref a0), (1, .int x0)] [] [(a0, .inr (3, [.ref a1, .int 4, .ref a2, .int 0, .int (-1), .int 0, .int 0, .int 0, .int 0, .int 0])), (a1, .inl (E.2.2 1, 1600, .inl f0))] 0 0
  refine mp_run hF mp_tabX3_ok [mp_c (.bipush 24) 24, mp_i (.istore_n 2), mp_i (.iload_n 2), mp_h (.ifCond .lt 42) [46]] (by decide +kernel) ?_
  refine And.intro (fun c1 => absurd c1 (by decide)) (fun _ => ?_)
  show mp_W E X 3 7 [(2, .int 24), (0, .ref a0), (1, .int x0)] [] [(a0, .inr (3, [.ref a1, .int 4, .ref a2, .int 0, .int (-1), .int 0, .int 0, .int 0, .int 0, .int 0])), (a1, .inl (E.2.2 1, 1600, .inl f0))] 0 0
  refine mp_run hF mp_tabX3_ok [mp_i (.aload_n 0), mp_h (.getfield 26) [10, 0], mp_c (.sipush 1600) 1600, mp_h (.if_icmp .ge 32) [46]] (by decide +kernel) ?_
  refine And.intro rfl (And.intro rfl ?_)
  refine And.intro (fun c2 => absurd c2 (by decide)) (fun _ => ?_)
  show mp_W E X 3 17 [(2, .int 24), (0, .ref a0), (1, .int x0)] [] [(a0, .inr (3, [.ref a1, .int 4, .ref a2, .int 0, .int (-1), .int 0, .int 0, .int 0, .int 0, .int 0])), (a1, .inl (E.2.2 1, 1600, .inl f0))] 0 0
  refine mp_run hF mp_tabX3_ok [mp_i (.aload_n 0), mp_h (.getfield 9) [9, 0], mp_i (.aload_n 0), mp_h (.getfield 26) [10, 0], mp_i (.iload_n 1), mp_i (.iload_n 2), mp_i .ishr, mp_i .i2b, mp_h .bastore [1]] (by decide +kernel) ?_
  refine And.intro rfl (And.intro rfl ?_)
  refine And.intro rfl (And.intro rfl ?_)
  intro z3 h4
  intro z6 h7
  refine And.intro rfl (And.intro rfl (And.intro (vp_in_iff.mpr (by decide)) ?_))
  intro g8 h9
  show mp_W E X 3 30 [(2, .int 24), (0, .ref a0), (1, .int x0)] [] [(a0, .inr (3, [.ref a1, .int 4, .ref a2, .int 0, .int (-1), .int 0, .int 0, .int 0, .int 0, .int 0])), (a1, .inl (E.2.2 1, 1600, .inl g8))] 0 0
  refine mp_run hF mp_tabX3_ok [mp_i (.aload_n 0), mp_i .dup, mp_h (.getfield 26) [10, 0], mp_c (.iconst 1) 1, mp_i .iadd, mp_h (.putfield 26) [10, 0]] (by decide +kernel) ?_
  refine And.intro rfl ?_
  refine And.intro rfl (And.intro rfl ?_)
  intro z10 h11
  obtain rfl : z10 = 5 := h11.trans (by decide)
  refine And.intro rfl (And.intro rfl (And.intro rfl (And.intro rfl (And.intro (Nat.le_of_ble_eq_true rfl) ?_))))
  show mp_W E X 3 40 [(2, .int 24), (0, .ref a0), (1, .int x0)] [] [(a0, .inr (3, [.ref a1, .int 5, .ref a2, .int 0, .int (-1), .int 0, .int 0, .int 0, .int 0, .int 0])), (a1, .inl (E.2.2 1, 1600, .inl g8))] 0 0
  refine mp_run hF mp_tabX3_ok [mp_c (.iinc 2 (-8)) (-8), mp_h (.goto (-40)) [3], mp_i (.iload_n 2), mp_h (.ifCond .lt 42) [46]] (by decide +kernel) ?_
  intro z12 h13
  obtain rfl : z12 = 16 := h13.trans (by decide)
  refine And.intro (fun c14 => absurd c14 (by decide)) (fun _ => ?_)
  show mp_W E X 3 7 [(2, .int 16), (0, .ref a0), (1, .int x0)] [] [(a0, .inr (3, [.ref a1, .int 5, .ref a2, .int 0, .int (-1), .int 0, .int 0, .int 0, .int 0, .int 0])), (a1, .inl (E.2.2 1, 1600, .inl g8))] 0 0
  refine mp_run hF mp_tabX3_ok [mp_i (.aload_n 0), mp_h (.getfield 26) [10, 0], mp_c (.sipush 1600) 1600, mp_h (.if_icmp .ge 32) [46]] (by decide +kernel) ?_
  refine And.intro rfl (And.intro rfl ?_)
  refine And.intro (fun c15 => absurd c15 (by decide)) (fun _ => ?_)
  show mp_W E X 3 17 [(2, .int 16), (0, .ref a0), (1, .int x0)] [] [(a0, .inr (3, [.ref a1, .int 5, .ref a2, .int 0, .int (-1), .int 0, .int 0, .int 0, .int 0, .int 0])), (a1, .inl (E.2.2 1, 1600, .inl g8))] 0 0
  refine mp_run hF mp_tabX3_ok [mp_i (.aload_n 0), mp_h (.getfield 9) [9, 0], mp_i (.aload_n 0), mp_h (.getfield 26) [10, 0], mp_i (.iload_n 1), mp_i (.iload_n 2), mp_i .ishr, mp_i .i2b, mp_h .bastore [1]] (by decide +kernel) ?_
  refine And.intro rfl (And.intro rfl ?_)
  refine And.intro rfl (And.intro rfl ?_)
  intro z16 h17
  intro z19 h20
  refine And.intro rfl (And.intro rfl (And.intro (vp_in_iff.mpr (by decide)) ?_))
  intro g21 h22
  show mp_W E X 3 30 [(2, .int 16), (0, .ref a0), (1, .int x0)] [] [(a0, .inr (3, [.ref a1, .int 5, .ref a2, .int 0, .int (-1), .int 0, .int 0, .int 0, .int 0, .int 0])), (a1, .inl (E.2.2 1, 1600, .inl g21))] 0 0
  refine mp_run hF mp_tabX3_ok [mp_i (.aload_n 0), mp_i .dup, mp_h (.getfield 26) [10, 0], mp_c (.iconst 1) 1, mp_i .iadd, mp_h (.putfield 26) [10, 0]] (by decide +kernel) ?_
  refine And.intro rfl ?_
  refine And.intro rfl (And.intro rfl ?_)
  intro z23 h24
  obtain rfl : z23 = 6 := h24.trans (by decide)
  refine And.intro rfl (And.intro rfl (And.intro rfl (And.intro rfl (And.intro (Nat.le_of_ble_eq_true rfl) ?_))))
  show mp_W E X 3 40 [(2, .int 16), (0, .ref a0), (1, .int x0)] [] [(a0, .inr (3, [.ref a1, .int 6, .ref a2, .int 0, .int (-1), .int 0, .int 0, .int 0, .int 0, .int 0])), (a1, .inl (E.2.2 1, 1600, .inl g21))] 0 0
  refine mp_run hF mp_tabX3_ok [mp_c (.iinc 2 (-8)) (-8), mp_h (.goto (-40)) [3], mp_i (.iload_n 2), mp_h (.ifCond .lt 42) [46]] (by decide +kernel) ?_
  intro z25 h26
  obtain rfl : z25 = 8 := h26.trans (by decide)
  refine And.intro (fun c27 => absurd c27 (by decide)) (fun _ => ?_)
  show mp_W E X 3 7 [(2, .int 8), (0, .ref a0), (1, .int x0)] [] [(a0, .inr (3, [.ref a1, .int 6, .ref a2, .int 0, .int (-1), .int 0, .int 0, .int 0, .int 0, .int 0])), (a1, .inl (E.2.2 1, 1600, .inl g21))] 0 0
  refine mp_run hF mp_tabX3_ok [mp_i (.aload_n 0), mp_h (.getfield 26) [10, 0], mp_c (.sipush 1600) 1600, mp_h (.if_icmp .ge 32) [46]] (by decide +kernel) ?_
  refine And.intro rfl (And.intro rfl ?_)
  refine And.intro (fun c28 => absurd c28 (by decide)) (fun _ => ?_)
  show mp_W E X 3 17 [(2, .int 8), (0, .ref a0), (1, .int x0)] [] [(a0, .inr (3, [.ref a1, .int 6, .ref a2, .int 0, .int (-1), .int 0, .int 0, .int 0, .int 0, .int 0])), (a1, .inl (E.2.2 1, 1600, .inl g21))] 0 0
  refine mp_run hF mp_tabX3_ok [mp_i (.aload_n 0), mp_h (.getfield 9) [9, 0], mp_i (.aload_n 0), mp_h (.getfield 26) [10, 0], mp_i (.iload_n 1), mp_i (.iload_n 2), mp_i .ishr, mp_i .i2b, mp_h .bastore [1]] (by decide +kernel) ?_
  refine And.intro rfl (And.intro rfl ?_)
  refine And.intro rfl (And.intro rfl ?_)
  intro z29 h30
  intro z32 h33
  refine And.intro rfl (And.intro rfl (And.intro (vp_in_iff.mpr (by decide)) ?_))
  intro g34 h35
  show mp_W E X 3 30 [(2, .int 8), (0, .ref a0), (1, .int x0)] [] [(a0, .inr (3, [.ref a1, .int 6, .ref a2, .int 0, .int (-1), .int 0, .int 0, .int 0, .int 0, .int 0])), (a1, .inl (E.2.2 1, 1600, .inl g34))] 0 0
  refine mp_run hF mp_tabX3_ok [mp_i (.aload_n 0), mp_i .dup, mp_h (.getfield 26) [10, 0], mp_c (.iconst 1) 1, mp_i .iadd, mp_h (.putfield 26) [10, 0]] (by decide +kernel) ?_
  refine And.intro rfl ?_
  refine And.intro rfl (And.intro rfl ?_)
  intro z36 h37
  obtain rfl : z36 = 7 := h37.trans (by decide)
  refine And.intro rfl (And.intro rfl (And.intro rfl (And.intro rfl (And.intro (Nat.le_of_ble_eq_true rfl) ?_))))
  show mp_W E X 3 40 [(2, .int 8), (0, .ref a0), (1, .int x0)] [] [(a0, .inr (3, [.ref a1, .int 7, .ref a2, .int 0, .int (-1), .int 0, .int 0, .int 0, .int 0, .int 0])), (a1, .inl (E.2.2 1, 1600, .inl g34))] 0 0
  refine mp_run hF mp_tabX3_ok [mp_c (.iinc 2 (-8)) (-8), mp_h (.goto (-40)) [3], mp_i (.iload_n 2), mp_h (.ifCond .lt 42) [46]] (by decide +kernel) ?_
  intro z38 h39
  obtain rfl : z38 = 0 := h39.trans (by decide)
  refine And.intro (fun c40 => absurd c40 (by decide)) (fun _ => ?_)
  show mp_W E X 3 7 [(2, .int 0), (0, .ref a0), (1, .int x0)] [] [(a0, .inr (3, [.ref a1, .int 7, .ref a2, .int 0, .int (-1), .int 0, .int 0, .int 0, .int 0, .int 0])), (a1, .inl (E.2.2 1, 1600, .inl g34))] 0 0
  refine mp_run hF mp_tabX3_ok [mp_i (.aload_n 0), mp_h (.getfield 26) [10, 0], mp_c (.sipush 1600) 1600, mp_h (.if_icmp .ge 32) [46]] (by decide +kernel) ?_
  refine And.intro rfl (And.intro rfl ?_)
  refine And.intro (fun c41 => absurd c41 (by decide)) (fun _ => ?_)
  show mp_W E X 3 17 [(2, .int 0), (0, .ref a0), (1, .int x0)] [] [(a0, .inr (3, [.ref a1, .int 7, .ref a2, .int 0, .int (-1), .int 0, .int 0, .int 0, .int 0, .int 0])), (a1, .inl (E.2.2 1, 1600, .inl g34))] 0 0
  refine mp_run hF mp_tabX3_ok [mp_i (.aload_n 0), mp_h (.getfield 9) [9, 0], mp_i (.aload_n 0), mp_h (.getfield 26) [10, 0], mp_i (.iload_n 1), mp_i (.iload_n 2), mp_i .ishr, mp_i .i2b, mp_h .bastore [1]] (by decide +kernel) ?_
  refine And.intro rfl (And.intro rfl ?_)
  refine And.intro rfl (And.intro rfl ?_)
  intro z42 h43
  intro z45 h46
  refine And.intro rfl (And.intro rfl (And.intro (vp_in_iff.mpr (by decide)) ?_))
  intro g47 h48
  show mp_W E X 3 30 [(2, .int 0), (0, .ref a0), (1, .int x0)] [] [(a0, .inr (3, [.ref a1, .int 7, .ref a2, .int 0, .int (-1), .int 0, .int 0, .int 0, .int 0, .int 0])), (a1, .inl (E.2.2 1, 1600, .inl g47))] 0 0
  refine mp_run hF mp_tabX3_ok [mp_i (.aload_n 0), mp_i .dup, mp_h (.getfield 26) [10, 0], mp_c (.iconst 1) 1, mp_i .iadd, mp_h (.putfield 26) [10, 0]] (by decide +kernel) ?_
  refine And.intro rfl ?_
  refine And.intro rfl (And.intro rfl ?_)
  intro z49 h50
  obtain rfl : z49 = 8 := h50.trans (by decide)
  refine And.intro rfl (And.intro rfl (And.intro rfl (And.intro rfl (And.intro (Nat.le_of_ble_eq_true rfl) ?_))))
  show mp_W E X 3 40 [(2, .int 0), (0, .ref a0), (1, .int x0)] [] [(a0, .inr (3, [.ref a1, .int 8, .ref a2, .int 0, .int (-1), .int 0, .int 0, .int 0, .int 0, .int 0])), (a1, .inl (E.2.2 1, 1600, .inl g47))] 0 0
  refine mp_run hF mp_tabX3_ok [mp_c (.iinc 2 (-8)) (-8), mp_h (.goto (-40)) [3], mp_i (.iload_n 2), mp_h (.ifCond .lt 42) [46]] (by decide +kernel) ?_
  intro z51 h52
  obtain rfl : z51 = (-8) := h52.trans (by decide)
  refine And.intro (fun _ => ?_) (fun c53 => absurd c53 (by decide))
  show mp_W E X 3 46 [(2, .int (-8)), (0, .ref a0), (1, .int x0)] [] [(a0, .inr (3, [.ref a1, .int 8, .ref a2, .int 0, .int (-1), .int 0, .int 0, .int 0, .int 0, .int 0])), (a1, .inl (E.2.2 1, 1600, .inl g47))] 0 0
  exact mp_vret hF hQ rfl (Nat.le_of_ble_eq_true rfl) (Nat.le_of_ble_eq_true rfl) [0, 1] (w' := [(a0, .inr (3, [.ref a1, .int 8, .ref a2, .int 0, .int (-1), .int 0, .int 0, .int 0, .int 0, .int 0])), (a1, .inl (E.2.2 1, 1600, .inl g47))]) rfl rfl ⟨g47, rfl, rfl⟩ (by decide +kernel)
set_option maxHeartbeats 4000000 in
set_option maxRecDepth 100000 in
theorem aX3_addFour_2 (E : mp_E) (a0 a1 a2 : Nat) (f0 : Nat → Int32) (x0 : Int32) : mp_Ct E yX3_addFour cX3_addFour 3 none 0 0 0 0 [.ref a0, .int x0] [(a0, .inr (3, [.ref a1, .int 8, .ref a2, .int 0, .int (-1), .int 0, .int 0, .int 0, .int 0, .int 0])), (a1, .inl (E.2.2 1, 1600, .inl f0))] (fun v w' => ∃ h0 : Nat → Int32, v = none ∧ w' = [(a0, .inr (3, [.ref a1, .int 12, .ref a2, .int 0, .int (-1), .int 0, .int 0, .int 0, .int 0, .int 0])), (a1, .inl (E.2.2 1, 1600, .inl h0))]) := by
  refine mp_met false (by decide) (by decide) (Nat.le_of_ble_eq_true rfl) (fun X hF hQ => ?_)
  have hF : mp_F E X (RX3, cX3_addFour, 3, (0, 0, 0, 0), none, false) := hF
  show mp_W E X 3 0 [(0, .ref a0), (1, .int x0)] [] [(a0, .inr (3, [.ref a1, .int 8, .ref a2, .int 0, .int (-1), .int 0, .int 0, .int 0, .int 0, .int 0])), (a1, .inl (E.2.2 1, 1600, .inl f0))] 0 0
  refine mp_run hF mp_tabX3_ok [mp_c (.bipush 24) 24, mp_i (.istore_n 2), mp_i (.iload_n 2), mp_h (.ifCond .lt 42) [46]] (by decide +kernel) ?_
  refine And.intro (fun c1 => absurd c1 (by decide)) (fun _ => ?_)
  show mp_W E X 3 7 [(2, .int 24), (0, .ref a0), (1, .int x0)] [] [(a0, .inr (3, [.ref a1, .int 8, .ref a2, .int 0, .int (-1), .int 0, .int 0, .int 0, .int 0, .int 0])), (a1, .inl (E.2.2 1, 1600, .inl f0))] 0 0
  refine mp_run hF mp_tabX3_ok [mp_i (.aload_n 0), mp_h (.getfield 26) [10, 0], mp_c (.sipush 1600) 1600, mp_h (.if_icmp .ge 32) [46]] (by decide +kernel) ?_
  refine And.intro rfl (And.intro rfl ?_)
  refine And.intro (fun c2 => absurd c2 (by decide)) (fun _ => ?_)
  show mp_W E X 3 17 [(2, .int 24), (0, .ref a0), (1, .int x0)] [] [(a0, .inr (3, [.ref a1, .int 8, .ref a2, .int 0, .int (-1), .int 0, .int 0, .int 0, .int 0, .int 0])), (a1, .inl (E.2.2 1, 1600, .inl f0))] 0 0
  refine mp_run hF mp_tabX3_ok [mp_i (.aload_n 0), mp_h (.getfield 9) [9, 0], mp_i (.aload_n 0), mp_h (.getfield 26) [10, 0], mp_i (.iload_n 1), mp_i (.iload_n 2), mp_i .ishr, mp_i .i2b, mp_h .bastore [1]] (by decide +kernel) ?_
  refine And.intro rfl (And.intro rfl ?_)
  refine And.intro rfl (And.intro rfl ?_)
  intro z3 h4
  intro z6 h7
  refine And.intro rfl (And.intro rfl (And.intro (vp_in_iff.mpr (by decide)) ?_))
  intro g8 h9
  show mp_W E X 3 30 [(2, .int 24), (0, .ref a0), (1, .int x0)] [] [(a0, .inr (3, [.ref a1, .int 8, .ref a2, .int 0, .int (-1), .int 0, .int 0, .int 0, .int 0, .int 0])), (a1, .inl (E.2.2 1, 1600, .inl g8))] 0 0
  refine mp_run hF mp_tabX3_ok [mp_i (.aload_n 0), mp_i .dup, mp_h (.getfield 26) [10, 0], mp_c (.iconst 1) 1, mp_i .iadd, mp_h (.putfield 26) [10, 0]] (by decide +kernel) ?_
  refine And.intro rfl ?_
  refine And.intro rfl (And.intro rfl ?_)
  intro z10 h11
  obtain rfl : z10 = 9 := h11.trans (by decide)
  refine And.intro rfl (And.intro rfl (And.intro rfl (And.intro rfl (And.intro (Nat.le_of_ble_eq_true rfl) ?_))))
  show mp_W E X 3 40 [(2, .int 24), (0, .ref a0), (1, .int x0)] [] [(a0, .inr (3, [.ref a1, .int 9, .ref a2, .int 0, .int (-1), .int 0, .int 0, .int 0, .int 0, .int 0])), (a1, .inl (E.2.2 1, 1600, .inl g8))] 0 0
  refine mp_run hF mp_tabX3_ok [mp_c (.iinc 2 (-8)) (-8), mp_h (.goto (-40)) [3], mp_i (.iload_n 2), mp_h (.ifCond .lt 42) [46]] (by decide +kernel) ?_
  intro z12 h13
  obtain rfl : z12 = 16 := h13.trans (by decide)
  refine And.intro (fun c14 => absurd c14 (by decide)) (fun _ => ?_)
  show mp_W E X 3 7 [(2, .int 16), (0, .ref a0), (1, .int x0)] [] [(a0, .inr (3, [.ref a1, .int 9, .ref a2, .int 0, .int (-1), .int 0, .int 0, .int 0, .int 0, .int 0])), (a1, .inl (E.2.2 1, 1600, .inl g8))] 0 0
  refine mp_run hF mp_tabX3_ok [mp_i (.aload_n 0), mp_h (.getfield 26) [10, 0], mp_c (.sipush 1600) 1600, mp_h (.if_icmp .ge 32) [46]] (by decide +kernel) ?_
  refine And.intro rfl (And.intro rfl ?_)
  refine And.intro (fun c15 => absurd c15 (by decide)) (fun _ => ?_)
  show mp_W E X 3 17 [(2, .int 16), (0, .ref a0), (1, .int x0)] [] [(a0, .inr (3, [.ref a1, .int 9, .ref a2, .int 0, .int (-1), .int 0, .int 0, .int 0, .int 0, .int 0])), (a1, .inl (E.2.2 1, 1600, .inl g8))] 0 0
  refine mp_run hF mp_tabX3_ok [mp_i (.aload_n 0), mp_h (.getfield 9) [9, 0], mp_i (.aload_n 0), mp_h (.getfield 26) [10, 0], mp_i (.iload_n 1), mp_i (.iload_n 2), mp_i .ishr, mp_i .i2b, mp_h .bastore [1]] (by decide +kernel) ?_
  refine And.intro rfl (And.intro rfl ?_)
  refine And.intro rfl (And.intro rfl ?_)
  intro z16 h17
  intro z19 h20
  refine And.intro rfl (And.intro rfl (And.intro (vp_in_iff.mpr (by decide)) ?_))
  intro g21 h22
  show mp_W E X 3 30 [(2, .int 16), (0, .ref a0), (1, .int x0)] [] [(a0, .inr (3, [.ref a1, .int 9, .ref a2, .int 0, .int (-1), .int 0, .int 0, .int 0, .int 0, .int 0])), (a1, .inl (E.2.2 1, 1600, .inl g21))] 0 0
  refine mp_run hF mp_tabX3_ok [mp_i (.aload_n 0), mp_i .dup, mp_h (.getfield 26) [10, 0], mp_c (.iconst 1) 1, mp_i .iadd, mp_h (.putfield 26) [10, 0]] (by decide +kernel) ?_
  refine And.intro rfl ?_
  refine And.intro rfl (And.intro rfl ?_)
  intro z23 h24
  obtain rfl : z23 = 10 := h24.trans (by decide)
  refine And.intro rfl (And.intro rfl (And.intro rfl (And.intro rfl (And.intro (Nat.le_of_ble_eq_true rfl) ?_))))
  show mp_W E X 3 40 [(2, .int 16), (0, .ref a0), (1, .int x0)] [] [(a0, .inr (3, [.ref a1, .int 10, .ref a2, .int 0, .int (-1), .int 0, .int 0, .int 0, .int 0, .int 0])), (a1, .inl (E.2.2 1, 1600, .inl g21))] 0 0
  refine mp_run hF mp_tabX3_ok [mp_c (.iinc 2 (-8)) (-8), mp_h (.goto (-40)) [3], mp_i (.iload_n 2), mp_h (.ifCond .lt 42) [46]] (by decide +kernel) ?_
  intro z25 h26
  obtain rfl : z25 = 8 := h26.trans (by decide)
  refine And.intro (fun c27 => absurd c27 (by decide)) (fun _ => ?_)
  show mp_W E X 3 7 [(2, .int 8), (0, .ref a0), (1, .int x0)] [] [(a0, .inr (3, [.ref a1, .int 10, .ref a2, .int 0, .int (-1), .int 0, .int 0, .int 0, .int 0, .int 0])), (a1, .inl (E.2.2 1, 1600, .inl g21))] 0 0
  refine mp_run hF mp_tabX3_ok [mp_i (.aload_n 0), mp_h (.getfield 26) [10, 0], mp_c (.sipush 1600) 1600, mp_h (.if_icmp .ge 32) [46]] (by decide +kernel) ?_
  refine And.intro rfl (And.intro rfl ?_)
  refine And.intro (fun c28 => absurd c28 (by decide)) (fun _ => ?_)
  show mp_W E X 3 17 [(2, .int 8), (0, .ref a0), (1, .int x0)] [] [(a0, .inr (3, [.ref a1, .int 10, .ref a2, .int 0, .int (-1), .int 0, .int 0, .int 0, .int 0, .int 0])), (a1, .inl (E.2.2 1, 1600, .inl g21))] 0 0
  refine mp_run hF mp_tabX3_ok [mp_i (.aload_n 0), mp_h (.getfield 9) [9, 0], mp_i (.aload_n 0), mp_h (.getfield 26) [10, 0], mp_i (.iload_n 1), mp_i (.iload_n 2), mp_i .ishr, mp_i .i2b, mp_h .bastore [1]] (by decide +kernel) ?_
  refine And.intro rfl (And.intro rfl ?_)
  refine And.intro rfl (And.intro rfl ?_)
  intro z29 h30
  intro z32 h33
  refine And.intro rfl (And.intro rfl (And.intro (vp_in_iff.mpr (by decide)) ?_))
  intro g34 h35
  show mp_W E X 3 30 [(2, .int 8), (0, .ref a0), (1, .int x0)] [] [(a0, .inr (3, [.ref a1, .int 10, .ref a2, .int 0, .int (-1), .int 0, .int 0, .int 0, .int 0, .int 0])), (a1, .inl (E.2.2 1, 1600, .inl g34))] 0 0
  refine mp_run hF mp_tabX3_ok [mp_i (.aload_n 0), mp_i .dup, mp_h (.getfield 26) [10, 0], mp_c (.iconst 1) 1, mp_i .iadd, mp_h (.putfield 26) [10, 0]] (by decide +kernel) ?_
  refine And.intro rfl ?_
  refine And.intro rfl (And.intro rfl ?_)
  intro z36 h37
  obtain rfl : z36 = 11 := h37.trans (by decide)
  refine And.intro rfl (And.intro rfl (And.intro rfl (And.intro rfl (And.intro (Nat.le_of_ble_eq_true rfl) ?_))))
  show mp_W E X 3 40 [(2, .int 8), (0, .ref a0), (1, .int x0)] [] [(a0, .inr (3, [.ref a1, .int 11, .ref a2, .int 0, .int (-1), .int 0, .int 0, .int 0, .int 0, .int 0])), (a1, .inl (E.2.2 1, 1600, .inl g34))] 0 0
  refine mp_run hF mp_tabX3_ok [mp_c (.iinc 2 (-8)) (-8), mp_h (.goto (-40)) [3], mp_i (.iload_n 2), mp_h (.ifCond .lt 42) [46]] (by decide +kernel) ?_
  intro z38 h39
  obtain rfl : z38 = 0 := h39.trans (by decide)
  refine And.intro (fun c40 => absurd c40 (by decide)) (fun _ => ?_)
  show mp_W E X 3 7 [(2, .int 0), (0, .ref a0), (1, .int x0)] [] [(a0, .inr (3, [.ref a1, .int 11, .ref a2, .int 0, .int (-1), .int 0, .int 0, .int 0, .int 0, .int 0])), (a1, .inl (E.2.2 1, 1600, .inl g34))] 0 0
  refine mp_run hF mp_tabX3_ok [mp_i (.aload_n 0), mp_h (.getfield 26) [10, 0], mp_c (.sipush 1600) 1600, mp_h (.if_icmp .ge 32) [46]] (by decide +kernel) ?_
  refine And.intro rfl (And.intro rfl ?_)
  refine And.intro (fun c41 => absurd c41 (by decide)) (fun _ => ?_)
  show mp_W E X 3 17 [(2, .int 0), (0, .ref a0), (1, .int x0)] [] [(a0, .inr (3, [.ref a1, .int 11, .ref a2, .int 0, .int (-1), .int 0, .int 0, .int 0, .int 0, .int 0])), (a1, .inl (E.2.2 1, 1600, .inl g34))] 0 0
  refine mp_run hF mp_tabX3_ok [mp_i (.aload_n 0), mp_h (.getfield 9) [9, 0], mp_i (.aload_n 0), mp_h (.getfield 26) [10, 0], mp_i (.iload_n 1), mp_i (.iload_n 2), mp_i .ishr, mp_i .i2b, mp_h .bastore [1]] (by decide +kernel) ?_
  refine And.intro rfl (And.intro rfl ?_)
  refine And.intro rfl (And.intro rfl ?_)
  intro z42 h43
  intro z45 h46
  refine And.intro rfl (And.intro rfl (And.intro (vp_in_iff.mpr (by decide)) ?_))
  intro g47 h48
  show mp_W E X 3 30 [(2, .int 0), (0, .ref a0), (1, .int x0)] [] [(a0, .inr (3, [.ref a1, .int 11, .ref a2, .int 0, .int (-1), .int 0, .int 0, .int 0, .int 0, .int 0])), (a1, .inl (E.2.2 1, 1600, .inl g47))] 0 0
  refine mp_run hF mp_tabX3_ok [mp_i (.aload_n 0), mp_i .dup, mp_h (.getfield 26) [10, 0], mp_c (.iconst 1) 1, mp_i .iadd, mp_h (.putfield 26) [10, 0]] (by decide +kernel) ?_
  refine And.intro rfl ?_
  refine And.intro rfl (And.intro rfl ?_)
  intro z49 h50
  obtain rfl : z49 = 12 := h50.trans (by decide)
  refine And.intro rfl (And.intro rfl (And.intro rfl (And.intro rfl (And.intro (Nat.le_of_ble_eq_true rfl) ?_))))
  show mp_W E X 3 40 [(2, .int 0), (0, .ref a0), (1, .int x0)] [] [(a0, .inr (3, [.ref a1, .int 12, .ref a2, .int 0, .int (-1), .int 0, .int 0, .int 0, .int 0, .int 0])), (a1, .inl (E.2.2 1, 1600, .inl g47))] 0 0
  refine mp_run hF mp_tabX3_ok [mp_c (.iinc 2 (-8)) (-8), mp_h (.goto (-40)) [3], mp_i (.iload_n 2), mp_h (.ifCond .lt 42) [46]] (by decide +kernel) ?_
  intro z51 h52
  obtain rfl : z51 = (-8) := h52.trans (by decide)
  refine And.intro (fun _ => ?_) (fun c53 => absurd c53 (by decide))
  show mp_W E X 3 46 [(2, .int (-8)), (0, .ref a0), (1, .int x0)] [] [(a0, .inr (3, [.ref a1, .int 12, .ref a2, .int 0, .int (-1), .int 0, .int 0, .int 0, .int 0, .int 0])), (a1, .inl (E.2.2 1, 1600, .inl g47))] 0 0
  exact mp_vret hF hQ rfl (Nat.le_of_ble_eq_true rfl) (Nat.le_of_ble_eq_true rfl) [0, 1] (w' := [(a0, .inr (3, [.ref a1, .int 12, .ref a2, .int 0, .int (-1), .int 0, .int 0, .int 0, .int 0, .int 0])), (a1, .inl (E.2.2 1, 1600, .inl g47))]) rfl rfl ⟨g47, rfl, rfl⟩ (by decide +kernel)
set_option maxHeartbeats 4000000 in
set_option maxRecDepth 100000 in
theorem aX3_addFour_3 (E : mp_E) (a0 a1 a2 : Nat) (f0 : Nat → Int32) (x0 : Int32) : mp_Ct E yX3_addFour cX3_addFour 3 none 0 0 0 0 [.ref a0, .int x0] [(a0, .inr (3, [.ref a1, .int 12, .ref a2, .int 0, .int (-1), .int 0, .int 0, .int 0, .int 0, .int 0])), (a1, .inl (E.2.2 1, 1600, .inl f0))] (fun v w' => ∃ h0 : Nat → Int32, v = none ∧ w' = [(a0, .inr (3, [.ref a1, .int 16, .ref a2, .int 0, .int (-1), .int 0, .int 0, .int 0, .int 0, .int 0])), (a1, .inl (E.2.2 1, 1600, .inl h0))]) := by
  refine mp_met false (by decide) (by decide) (Nat.le_of_ble_eq_true rfl) (fun X hF hQ => ?_)
  have hF : mp_F E X (RX3, cX3_addFour, 3, (0, 0, 0, 0), none, false) := hF
  show mp_W E X 3 0 [(0, .ref a0), (1, .int x0)] [] [(a0, .inr (3, [.ref a1, .int 12, .ref a2, .int 0, .int (-1), .int 0, .int 0, .int 0, .int 0, .int 0])), (a1, .inl (E.2.2 1, 1600, .inl f0))] 0 0
  refine mp_run hF mp_tabX3_ok [mp_c (.bipush 24) 24, mp_i (.istore_n 2), mp_i (.iload_n 2), mp_h (.ifCond .lt 42) [46]] (by decide +kernel) ?_
  refine And.intro (fun c1 => absurd c1 (by decide)) (fun _ => ?_)
  show mp_W E X 3 7 [(2, .int 24), (0, .ref a0), (1, .int x0)] [] [(a0, .inr (3, [.ref a1, .int 12, .ref a2, .int 0, .int (-1), .int 0, .int 0, .int 0, .int 0, .int 0])), (a1, .inl (E.2.2 1, 1600, .inl f0))] 0 0
  refine mp_run hF mp_tabX3_ok [mp_i (.aload_n 0), mp_h (.getfield 26) [10, 0], mp_c (.sipush 1600) 1600, mp_h (.if_icmp .ge 32) [46]] (by decide +kernel) ?_
  refine And.intro rfl (And.intro rfl ?_)
  refine And.intro (fun c2 => absurd c2 (by decide)) (fun _ => ?_)
  show mp_W E X 3 17 [(2, .int 24), (0, .ref a0), (1, .int x0)] [] [(a0, .inr (3, [.ref a1, .int 12, .ref a2, .int 0, .int (-1), .int 0, .int 0, .int 0, .int 0, .int 0])), (a1, .inl (E.2.2 1, 1600, .inl f0))] 0 0
  refine mp_run hF mp_tabX3_ok [mp_i (.aload_n 0), mp_h (.getfield 9) [9, 0], mp_i (.aload_n 0), mp_h (.getfield 26) [10, 0], mp_i (.iload_n 1), mp_i (.iload_n 2), mp_i .ishr, mp_i .i2b, mp_h .bastore [1]] (by decide +kernel) ?_
  refine And.intro rfl (And.intro rfl ?_)
  refine And.intro rfl (And.intro rfl ?_)
  intro z3 h4
  intro z6 h7
  refine And.intro rfl (And.intro rfl (And.intro (vp_in_iff.mpr (by decide)) ?_))
  intro g8 h9
  show mp_W E X 3 30 [(2, .int 24), (0, .ref a0), (1, .int x0)] [] [(a0, .inr (3, [.ref a1, .int 12, .ref a2, .int 0, .int (-1), .int 0, .int 0, .int 0, .int 0, .int 0])), (a1, .inl (E.2.2 1, 1600, .inl g8))] 0 0
  refine mp_run hF mp_tabX3_ok [mp_i (.aload_n 0), mp_i .dup, mp_h (.getfield 26) [10, 0], mp_c (.iconst 1) 1, mp_i .iadd, mp_h (.putfield 26) [10, 0]] (by decide +kernel) ?_
  refine And.intro rfl ?_
  refine And.intro rfl (And.intro rfl ?_)
  intro z10 h11
  obtain rfl : z10 = 13 := h11.trans (by decide)
  refine And.intro rfl (And.intro rfl (And.intro rfl (And.intro rfl (And.intro (Nat.le_of_ble_eq_true rfl) ?_))))
  show mp_W E X 3 40 [(2, .int 24), (0, .ref a0), (1, .int x0)] [] [(a0, .inr (3, [.ref a1, .int 13, .ref a2, .int 0, .int (-1), .int 0, .int 0, .int 0, .int 0, .int 0])), (a1, .inl (E.2.2 1, 1600, .inl g8))] 0 0
  refine mp_run hF mp_tabX3_ok [mp_c (.iinc 2 (-8)) (-8), mp_h (.goto (-40)) [3], mp_i (.iload_n 2), mp_h (.ifCond .lt 42) [46]] (by decide +kernel) ?_
  intro z12 h13
  obtain rfl : z12 = 16 := h13.trans (by decide)
  refine And.intro (fun c14 => absurd c14 (by decide)) (fun _ => ?_)
  show mp_W E X 3 7 [(2, .int 16), (0, .ref a0), (1, .int x0)] [] [(a0, .inr (3, [.ref a1, .int 13, .ref a2, .int 0, .int (-1), .int 0, .int 0, .int 0, .int 0, .int 0])), (a1, .inl (E.2.2 1, 1600, .inl g8))] 0 0
  refine mp_run hF mp_tabX3_ok [mp_i (.aload_n 0), mp_h (.getfield 26) [10, 0], mp_c (.sipush 1600) 1600, mp_h (.if_icmp .ge 32) [46]] (by decide +kernel) ?_
  refine And.intro rfl (And.intro rfl ?_)
  refine And.intro (fun c15 => absurd c15 (by decide)) (fun _ => ?_)
  show mp_W E X 3 17 [(2, .int 16), (0, .ref a0), (1, .int x0)] [] [(a0, .inr (3, [.ref a1, .int 13, .ref a2, .int 0, .int (-1), .int 0, .int 0, .int 0, .int 0, .int 0])), (a1, .inl (E.2.2 1, 1600, .inl g8))] 0 0
  refine mp_run hF mp_tabX3_ok [mp_i (.aload_n 0), mp_h (.getfield 9) [9, 0], mp_i (.aload_n 0), mp_h (.getfield 26) [10, 0], mp_i (.iload_n 1), mp_i (.iload_n 2), mp_i .ishr, mp_i .i2b, mp_h .bastore [1]] (by decide +kernel) ?_
  refine And.intro rfl (And.intro rfl ?_)
  refine And.intro rfl (And.intro rfl ?_)
  intro z16 h17
  intro z19 h20
  refine And.intro rfl (And.intro rfl (And.intro (vp_in_iff.mpr (by decide)) ?_))
  intro g21 h22
  show mp_W E X 3 30 [(2, .int 16), (0, .ref a0), (1, .int x0)] [] [(a0, .inr (3, [.ref a1, .int 13, .ref a2, .int 0, .int (-1), .int 0, .int 0, .int 0, .int 0, .int 0])), (a1, .inl (E.2.2 1, 1600, .inl g21))] 0 0
  refine mp_run hF mp_tabX3_ok [mp_i (.aload_n 0), mp_i .dup, mp_h (.getfield 26) [10, 0], mp_c (.iconst 1) 1, mp_i .iadd, mp_h (.putfield 26) [10, 0]] (by decide +kernel) ?_
  refine And.intro rfl ?_
  refine And.intro rfl (And.intro rfl ?_)
  intro z23 h24
  obtain rfl : z23 = 14 := h24.trans (by decide)
  refine And.intro rfl (And.intro rfl (And.intro rfl (And.intro rfl (And.intro (Nat.le_of_ble_eq_true rfl) ?_))))
  show mp_W E X 3 40 [(2, .int 16), (0, .ref a0), (1, .int x0)] [] [(a0, .inr (3, [.ref a1, .int 14, .ref a2, .int 0, .int (-1), .int 0, .int 0, .int 0, .int 0, .int 0])), (a1, .inl (E.2.2 1, 1600, .inl g21))] 0 0
  refine mp_run hF mp_tabX3_ok [mp_c (.iinc 2 (-8)) (-8), mp_h (.goto (-40)) [3], mp_i (.iload_n 2), mp_h (.ifCond .lt 42) [46]] (by decide +kernel) ?_
  intro z25 h26
  obtain rfl : z25 = 8 := h26.trans (by decide)
  refine And.intro (fun c27 => absurd c27 (by decide)) (fun _ => ?_)
  show mp_W E X 3 7 [(2, .int 8), (0, .ref a0), (1, .int x0)] [] [(a0, .inr (3, [.ref a1, .int 14, .ref a2, .int 0, .int (-1), .int 0, .int 0, .int 0, .int 0, .int 0])), (a1, .inl (E.2.2 1, 1600, .inl g21))] 0 0
  refine mp_run hF mp_tabX3_ok [mp_i (.aload_n 0), mp_h (.getfield 26) [10, 0], mp_c (.sipush 1600) 1600, mp_h (.if_icmp .ge 32) [46]] (by decide +kernel) ?_
  refine And.intro rfl (And.intro rfl ?_)
  refine And.intro (fun c28 => absurd c28 (by decide)) (fun _ => ?_)
  show mp_W E X 3 17 [(2, .int 8), (0, .ref a0), (1, .int x0)] [] [(a0, .inr (3, [.ref a1, .int 14, .ref a2, .int 0, .int (-1), .int 0, .int 0, .int 0, .int 0, .int 0])), (a1, .inl (E.2.2 1, 1600, .inl g21))] 0 0
  refine mp_run hF mp_tabX3_ok [mp_i (.aload_n 0), mp_h (.getfield 9) [9, 0], mp_i (.aload_n 0), mp_h (.getfield 26) [10, 0], mp_i (.iload_n 1), mp_i (.iload_n 2), mp_i .ishr, mp_i .i2b, mp_h .bastore [1]] (by decide +kernel) ?_
  refine And.intro rfl (And.intro rfl ?_)
  refine And.intro rfl (And.intro rfl ?_)
  intro z29 h30
  intro z32 h33
  refine And.intro rfl (And.intro rfl (And.intro (vp_in_iff.mpr (by decide)) ?_))
  intro g34 h35
  show mp_W E X 3 30 [(2, .int 8), (0, .ref a0), (1, .int x0)] [] [(a0, .inr (3, [.ref a1, .int 14, .ref a2, .int 0, .int (-1), .int 0, .int 0, .int 0, .int 0, .int 0])), (a1, .inl (E.2.2 1, 1600, .inl g34))] 0 0
  refine mp_run hF mp_tabX3_ok [mp_i (.aload_n 0), mp_i .dup, mp_h (.getfield 26) [10, 0], mp_c (.iconst 1) 1, mp_i .iadd, mp_h (.putfield 26) [10, 0]] (by decide +kernel) ?_
  refine And.intro rfl ?_
  refine And.intro rfl (And.intro rfl ?_)
  intro z36 h37
  obtain rfl : z36 = 15 := h37.trans (by decide)
  refine And.intro rfl (And.intro rfl (And.intro rfl (And.intro rfl (And.intro (Nat.le_of_ble_eq_true rfl) ?_))))
  show mp_W E X 3 40 [(2, .int 8), (0, .ref a0), (1, .int x0)] [] [(a0, .inr (3, [.ref a1, .int 15, .ref a2, .int 0, .int (-1), .int 0, .int 0, .int 0, .int 0, .int 0])), (a1, .inl (E.2.2 1, 1600, .inl g34))] 0 0
  refine mp_run hF mp_tabX3_ok [mp_c (.iinc 2 (-8)) (-8), mp_h (.goto (-40)) [3], mp_i (.iload_n 2), mp_h (.ifCond .lt 42) [46]] (by decide +kernel) ?_
  intro z38 h39
  obtain rfl : z38 = 0 := h39.trans (by decide)
  refine And.intro (fun c40 => absurd c40 (by decide)) (fun _ => ?_)
  show mp_W E X 3 7 [(2, .int 0), (0, .ref a0), (1, .int x0)] [] [(a0, .inr (3, [.ref a1, .int 15, .ref a2, .int 0, .int (-1), .int 0, .int 0, .int 0, .int 0, .int 0])), (a1, .inl (E.2.2 1, 1600, .inl g34))] 0 0
  refine mp_run hF mp_tabX3_ok [mp_i (.aload_n 0), mp_h (.getfield 26) [10, 0], mp_c (.sipush 1600) 1600, mp_h (.if_icmp .ge 32) [46]] (by decide +kernel) ?_
  refine And.intro rfl (And.intro rfl ?_)
  refine And.intro (fun c41 => absurd c41 (by decide)) (fun _ => ?_)
  show mp_W E X 3 17 [(2, .int 0), (0, .ref a0), (1, .int x0)] [] [(a0, .inr (3, [.ref a1, .int 15, .ref a2, .int 0, .int (-1), .int 0, .int 0, .int 0, .int 0, .int 0])), (a1, .inl (E.2.2 1, 1600, .inl g34))] 0 0
  refine mp_run hF mp_tabX3_ok [mp_i (.aload_n 0), mp_h (.getfield 9) [9, 0], mp_i (.aload_n 0), mp_h (.getfield 26) [10, 0], mp_i (.iload_n 1), mp_i (.iload_n 2), mp_i .ishr, mp_i .i2b, mp_h .bastore [1]] (by decide +kernel) ?_
  refine And.intro rfl (And.intro rfl ?_)
  refine And.intro rfl (And.intro rfl ?_)
  intro z42 h43
  intro z45 h46
  refine And.intro rfl (And.intro rfl (And.intro (vp_in_iff.mpr (by decide)) ?_))
  intro g47 h48
  show mp_W E X 3 30 [(2, .int 0), (0, .ref a0), (1, .int x0)] [] [(a0, .inr (3, [.ref a1, .int 15, .ref a2, .int 0, .int (-1), .int 0, .int 0, .int 0, .int 0, .int 0])), (a1, .inl (E.2.2 1, 1600, .inl g47))] 0 0
  refine mp_run hF mp_tabX3_ok [mp_i (.aload_n 0), mp_i .dup, mp_h (.getfield 26) [10, 0], mp_c (.iconst 1) 1, mp_i .iadd, mp_h (.putfield 26) [10, 0]] (by decide +kernel) ?_
  refine And.intro rfl ?_
  refine And.intro rfl (And.intro rfl ?_)
  intro z49 h50
  obtain rfl : z49 = 16 := h50.trans (by decide)
  refine And.intro rfl (And.intro rfl (And.intro rfl (And.intro rfl (And.intro (Nat.le_of_ble_eq_true rfl) ?_))))
  show mp_W E X 3 40 [(2, .int 0), (0, .ref a0), (1, .int x0)] [] [(a0, .inr (3, [.ref a1, .int 16, .ref a2, .int 0, .int (-1), .int 0, .int 0, .int 0, .int 0, .int 0])), (a1, .inl (E.2.2 1, 1600, .inl g47))] 0 0
  refine mp_run hF mp_tabX3_ok [mp_c (.iinc 2 (-8)) (-8), mp_h (.goto (-40)) [3], mp_i (.iload_n 2), mp_h (.ifCond .lt 42) [46]] (by decide +kernel) ?_
  intro z51 h52
  obtain rfl : z51 = (-8) := h52.trans (by decide)
  refine And.intro (fun _ => ?_) (fun c53 => absurd c53 (by decide))
  show mp_W E X 3 46 [(2, .int (-8)), (0, .ref a0), (1, .int x0)] [] [(a0, .inr (3, [.ref a1, .int 16, .ref a2, .int 0, .int (-1), .int 0, .int 0, .int 0, .int 0, .int 0])), (a1, .inl (E.2.2 1, 1600, .inl g47))] 0 0
  exact mp_vret hF hQ rfl (Nat.le_of_ble_eq_true rfl) (Nat.le_of_ble_eq_true rfl) [0, 1] (w' := [(a0, .inr (3, [.ref a1, .int 16, .ref a2, .int 0, .int (-1), .int 0, .int 0, .int 0, .int 0, .int 0])), (a1, .inl (E.2.2 1, 1600, .inl g47))]) rfl rfl ⟨g47, rfl, rfl⟩ (by decide +kernel)
set_option maxHeartbeats 4000000 in
set_option maxRecDepth 100000 in
theorem aX3_addFour_4 (E : mp_E) (a0 a1 a2 : Nat) (f0 : Nat → Int32) (x0 : Int32) : mp_Ct E yX3_addFour cX3_addFour 3 none 0 0 0 0 [.ref a0, .int x0] [(a0, .inr (3, [.ref a1, .int 16, .ref a2, .int 0, .int (-1), .int 0, .int 0, .int 0, .int 0, .int 0])), (a1, .inl (E.2.2 1, 1600, .inl f0))] (fun v w' => ∃ h0 : Nat → Int32, v = none ∧ w' = [(a0, .inr (3, [.ref a1, .int 20, .ref a2, .int 0, .int (-1), .int 0, .int 0, .int 0, .int 0, .int 0])), (a1, .inl (E.2.2 1, 1600, .inl h0))]) := by
  refine mp_met false (by decide) (by decide) (Nat.le_of_ble_eq_true rfl) (fun X hF hQ => ?_)
  have hF : mp_F E X (RX3, cX3_addFour, 3, (0, 0, 0, 0), none, false) := hF
  show mp_W E X 3 0 [(0, .ref a0), (1, .int x0)] [] [(a0, .inr (3, [.ref a1, .int 16, .ref a2, .int 0, .int (-1), .int 0, .int 0, .int 0, .int 0, .int 0])), (a1, .inl (E.2.2 1, 1600, .inl f0))] 0 0
  refine mp_run hF mp_tabX3_ok [mp_c (.bipush 24) 24, mp_i (.istore_n 2), mp_i (.iload_n 2), mp_h (.ifCond .lt 42) [46]] (by decide +kernel) ?_
  refine And.intro (fun c1 => absurd c1 (by decide)) (fun _ => ?_)
  show mp_W E X 3 7 [(2, .int 24), (0, .ref a0), (1, .int x0)] [] [(a0, .inr (3, [.ref a1, .int 16, .ref a2, .int 0, .int (-1), .int 0, .int 0, .int 0, .int 0, .int 0])), (a1, .inl (E.2.2 1, 1600, .inl f0))] 0 0
  refine mp_run hF mp_tabX3_ok [mp_i (.aload_n 0), mp_h (.getfield 26) [10, 0], mp_c (.sipush 1600) 1600, mp_h (.if_icmp .ge 32) [46]] (by decide +kernel) ?_
  refine And.intro rfl (And.intro rfl ?_)
  refine And.intro (fun c2 => absurd c2 (by decide)) (fun _ => ?_)
  show mp_W E X 3 17 [(2, .int 24), (0, .ref a0), (1, .int x0)] [] [(a0, .inr (3, [.ref a1, .int 16, .ref a2, .int 0, .int (-1), .int 0, .int 0, .int 0, .int 0, .int 0])), (a1, .inl (E.2.2 1, 1600, .inl f0))] 0 0
  refine mp_run hF mp_tabX3_ok [mp_i (.aload_n 0), mp_h (.getfield 9) [9, 0], mp_i (.aload_n 0), mp_h (.getfield 26) [10, 0], mp_i (.iload_n 1), mp_i (.iload_n 2), mp_i .ishr, mp_i .i2b, mp_h .bastore [1]] (by decide +kernel) ?_
  refine And.intro rfl (And.intro rfl ?_)
  refine And.intro rfl (And.intro rfl ?_)
  intro z3 h4
  intro z6 h7
  refine And.intro rfl (And.intro rfl (And.intro (vp_in_iff.mpr (by decide)) ?_))
  intro g8 h9
  show mp_W E X 3 30 [(2, .int 24), (0, .ref a0), (1, .int x0)] [] [(a0, .inr (3, [.ref a1, .int 16, .ref a2, .int 0, .int (-1), .int 0, .int 0, .int 0, .int 0, .int 0])), (a1, .inl (E.2.2 1, 1600, .inl g8))] 0 0
  refine mp_run hF mp_tabX3_ok [mp_i (.aload_n 0), mp_i .dup, mp_h (.getfield 26) [10, 0], mp_c (.iconst 1) 1, mp_i .iadd, mp_h (.putfield 26) [10, 0]] (by decide +kernel) ?_
  refine And.intro rfl ?_
  refine And.intro rfl (And.intro rfl ?_)
  intro z10 h11
  obtain rfl : z10 = 17 := h11.trans (by decide)
  refine And.intro rfl (And.intro rfl (And.intro rfl (And.intro rfl (And.intro (Nat.le_of_ble_eq_true rfl) ?_))))
  show mp_W E X 3 40 [(2, .int 24), (0, .ref a0), (1, .int x0)] [] [(a0, .inr (3, [.ref a1, .int 17, .ref a2, .int 0, .int (-1), .int 0, .int 0, .int 0, .int 0, .int 0])), (a1, .inl (E.2.2 1, 1600, .inl g8))] 0 0
  refine mp_run hF mp_tabX3_ok [mp_c (.iinc 2 (-8)) (-8), mp_h (.goto (-40)) [3], mp_i (.iload_n 2), mp_h (.ifCond .lt 42) [46]] (by decide +kernel) ?_
  intro z12 h13
  obtain rfl : z12 = 16 := h13.trans (by decide)
  refine And.intro (fun c14 => absurd c14 (by decide)) (fun _ => ?_)
  show mp_W E X 3 7 [(2, .int 16), (0, .ref a0), (1, .int x0)] [] [(a0, .inr (3, [.ref a1, .int 17, .ref a2, .int 0, .int (-1), .int 0, .int 0, .int 0, .int 0, .int 0])), (a1, .inl (E.2.2 1, 1600, .inl g8))] 0 0
  refine mp_run hF mp_tabX3_ok [mp_i (.aload_n 0), mp_h (.getfield 26) [10, 0], mp_c (.sipush 1600) 1600, mp_h (.if_icmp .ge 32) [46]] (by decide +kernel) ?_
  refine And.intro rfl (And.intro rfl ?_)
  refine And.intro (fun c15 => absurd c15 (by decide)) (fun _ => ?_)
  show mp_W E X 3 17 [(2, .int 16), (0, .ref a0), (1, .int x0)] [] [(a0, .inr (3, [.ref a1, .int 17, .ref a2, .int 0, .int (-1), .int 0, .int 0, .int 0, .int 0, .int 0])), (a1, .inl (E.2.2 1, 1600, .inl g8))] 0 0
  refine mp_run hF mp_tabX3_ok [mp_i (.aload_n 0), mp_h (.getfield 9) [9, 0], mp_i (.aload_n 0), mp_h (.getfield 26) [10, 0], mp_i (.iload_n 1), mp_i (.iload_n 2), mp_i .ishr, mp_i .i2b, mp_h .bastore [1]] (by decide +kernel) ?_
  refine And.intro rfl (And.intro rfl ?_)
  refine And.intro rfl (And.intro rfl ?_)
  intro z16 h17
  intro z19 h20
  refine And.intro rfl (And.intro rfl (And.intro (vp_in_iff.mpr (by decide)) ?_))
  intro g21 h22
  show mp_W E X 3 30 [(2, .int 16), (0, .ref a0), (1, .int x0)] [] [(a0, .inr (3, [.ref a1, .int 17, .ref a2, .int 0, .int (-1), .int 0, .int 0, .int 0, .int 0, .int 0])), (a1, .inl (E.2.2 1, 1600, .inl g21))] 0 0
  refine mp_run hF mp_tabX3_ok [mp_i (.aload_n 0), mp_i .dup, mp_h (.getfield 26) [10, 0], mp_c (.iconst 1) 1, mp_i .iadd, mp_h (.putfield 26) [10, 0]] (by decide +kernel) ?_
  refine And.intro rfl ?_
  refine And.intro rfl (And.intro rfl ?_)
  intro z23 h24
  obtain rfl : z23 = 18 := h24.trans (by decide)
  refine And.intro rfl (And.intro rfl (And.intro rfl (And.intro rfl (And.intro (Nat.le_of_ble_eq_true rfl) ?_))))
  show mp_W E X 3 40 [(2, .int 16), (0, .ref a0), (1, .int x0)] [] [(a0, .inr (3, [.ref a1, .int 18, .ref a2, .int 0, .int (-1), .int 0, .int 0, .int 0, .int 0, .int 0])), (a1, .inl (E.2.2 1, 1600, .inl g21))] 0 0
  refine mp_run hF mp_tabX3_ok [mp_c (.iinc 2 (-8)) (-8), mp_h (.goto (-40)) [3], mp_i (.iload_n 2), mp_h (.ifCond .lt 42) [46]] (by decide +kernel) ?_
  intro z25 h26
  obtain rfl : z25 = 8 := h26.trans (by decide)
  refine And.intro (fun c27 => absurd c27 (by decide)) (fun _ => ?_)
  show mp_W E X 3 7 [(2, .int 8), (0, .ref a0), (1, .int x0)] [] [(a0, .inr (3, [.ref a1, .int 18, .ref a2, .int 0, .int (-1), .int 0, .int 0, .int 0, .int 0, .int 0])), (a1, .inl (E.2.2 1, 1600, .inl g21))] 0 0
  refine mp_run hF mp_tabX3_ok [mp_i (.aload_n 0), mp_h (.getfield 26) [10, 0], mp_c (.sipush 1600) 1600, mp_h (.if_icmp .ge 32) [46]] (by decide +kernel) ?_
  refine And.intro rfl (And.intro rfl ?_)
  refine And.intro (fun c28 => absurd c28 (by decide)) (fun _ => ?_)
  show mp_W E X 3 17 [(2, .int 8), (0, .ref a0), (1, .int x0)] [] [(a0, .inr (3, [.ref a1, .int 18, .ref a2, .int 0, .int (-1), .int 0, .int 0, .int 0, .int 0, .int 0])), (a1, .inl (E.2.2 1, 1600, .inl g21))] 0 0
  refine mp_run hF mp_tabX3_ok [mp_i (.aload_n 0), mp_h (.getfield 9) [9, 0], mp_i (.aload_n 0), mp_h (.getfield 26) [10, 0], mp_i (.iload_n 1), mp_i (.iload_n 2), mp_i .ishr, mp_i .i2b, mp_h .bastore [1]] (by decide +kernel) ?_
  refine And.intro rfl (And.intro rfl ?_)
  refine And.intro rfl (And.intro rfl ?_)
  intro z29 h30
  intro z32 h33
  refine And.intro rfl (And.intro rfl (And.intro (vp_in_iff.mpr (by decide)) ?_))
  intro g34 h35
  show mp_W E X 3 30 [(2, .int 8), (0, .ref a0), (1, .int x0)] [] [(a0, .inr (3, [.ref a1, .int 18, .ref a2, .int 0, .int (-1), .int 0, .int 0, .int 0, .int 0, .int 0])), (a1, .inl (E.2.2 1, 1600, .inl g34))] 0 0
  refine mp_run hF mp_tabX3_ok [mp_i (.aload_n 0), mp_i .dup, mp_h (.getfield 26) [10, 0], mp_c (.iconst 1) 1, mp_i .iadd, mp_h (.putfield 26) [10, 0]] (by decide +kernel) ?_
  refine And.intro rfl ?_
  refine And.intro rfl (And.intro rfl ?_)
  intro z36 h37
  obtain rfl : z36 = 19 := h37.trans (by decide)
  refine And.intro rfl (And.intro rfl (And.intro rfl (And.intro rfl (And.intro (Nat.le_of_ble_eq_true rfl) ?_))))
  show mp_W E X 3 40 [(2, .int 8), (0, .ref a0), (1, .int x0)] [] [(a0, .inr (3, [.ref a1, .int 19, .ref a2, .int 0, .int (-1), .int 0, .int 0, .int 0, .int 0, .int 0])), (a1, .inl (E.2.2 1, 1600, .inl g34))] 0 0
  refine mp_run hF mp_tabX3_ok [mp_c (.iinc 2 (-8)) (-8), mp_h (.goto (-40)) [3], mp_i (.iload_n 2), mp_h (.ifCond .lt 42) [46]] (by decide +kernel) ?_
  intro z38 h39
  obtain rfl : z38 = 0 := h39.trans (by decide)
  refine And.intro (fun c40 => absurd c40 (by decide)) (fun _ => ?_)
  show mp_W E X 3 7 [(2, .int 0), (0, .ref a0), (1, .int x0)] [] [(a0, .inr (3, [.ref a1, .int 19, .ref a2, .int 0, .int (-1), .int 0, .int 0, .int 0, .int 0, .int 0])), (a1, .inl (E.2.2 1, 1600, .inl g34))] 0 0
  refine mp_run hF mp_tabX3_ok [mp_i (.aload_n 0), mp_h (.getfield 26) [10, 0], mp_c (.sipush 1600) 1600, mp_h (.if_icmp .ge 32) [46]] (by decide +kernel) ?_
  refine And.intro rfl (And.intro rfl ?_)
  refine And.intro (fun c41 => absurd c41 (by decide)) (fun _ => ?_)
  show mp_W E X 3 17 [(2, .int 0), (0, .ref a0), (1, .int x0)] [] [(a0, .inr (3, [.ref a1, .int 19, .ref a2, .int 0, .int (-1), .int 0, .int 0, .int 0, .int 0, .int 0])), (a1, .inl (E.2.2 1, 1600, .inl g34))] 0 0
  refine mp_run hF mp_tabX3_ok [mp_i (.aload_n 0), mp_h (.getfield 9) [9, 0], mp_i (.aload_n 0), mp_h (.getfield 26) [10, 0], mp_i (.iload_n 1), mp_i (.iload_n 2), mp_i .ishr, mp_i .i2b, mp_h .bastore [1]] (by decide +kernel) ?_
  refine And.intro rfl (And.intro rfl ?_)
  refine And.intro rfl (And.intro rfl ?_)
  intro z42 h43
  intro z45 h46
  refine And.intro rfl (And.intro rfl (And.intro (vp_in_iff.mpr (by decide)) ?_))
  intro g47 h48
  show mp_W E X 3 30 [(2, .int 0), (0, .ref a0), (1, .int x0)] [] [(a0, .inr (3, [.ref a1, .int 19, .ref a2, .int 0, .int (-1), .int 0, .int 0, .int 0, .int 0, .int 0])), (a1, .inl (E.2.2 1, 1600, .inl g47))] 0 0
  refine mp_run hF mp_tabX3_ok [mp_i (.aload_n 0), mp_i .dup, mp_h (.getfield 26) [10, 0], mp_c (.iconst 1) 1, mp_i .iadd, mp_h (.putfield 26) [10, 0]] (by decide +kernel) ?_
  refine And.intro rfl ?_
  refine And.intro rfl (And.intro rfl ?_)
  intro z49 h50
  obtain rfl : z49 = 20 := h50.trans (by decide)
  refine And.intro rfl (And.intro rfl (And.intro rfl (And.intro rfl (And.intro (Nat.le_of_ble_eq_true rfl) ?_))))
  show mp_W E X 3 40 [(2, .int 0), (0, .ref a0), (1, .int x0)] [] [(a0, .inr (3, [.ref a1, .int 20, .ref a2, .int 0, .int (-1), .int 0, .int 0, .int 0, .int 0, .int 0])), (a1, .inl (E.2.2 1, 1600, .inl g47))] 0 0
  refine mp_run hF mp_tabX3_ok [mp_c (.iinc 2 (-8)) (-8), mp_h (.goto (-40)) [3], mp_i (.iload_n 2), mp_h (.ifCond .lt 42) [46]] (by decide +kernel) ?_
  intro z51 h52
  obtain rfl : z51 = (-8) := h52.trans (by decide)
  refine And.intro (fun _ => ?_) (fun c53 => absurd c53 (by decide))
  show mp_W E X 3 46 [(2, .int (-8)), (0, .ref a0), (1, .int x0)] [] [(a0, .inr (3, [.ref a1, .int 20, .ref a2, .int 0, .int (-1), .int 0, .int 0, .int 0, .int 0, .int 0])), (a1, .inl (E.2.2 1, 1600, .inl g47))] 0 0
  exact mp_vret hF hQ rfl (Nat.le_of_ble_eq_true rfl) (Nat.le_of_ble_eq_true rfl) [0, 1] (w' := [(a0, .inr (3, [.ref a1, .int 20, .ref a2, .int 0, .int (-1), .int 0, .int 0, .int 0, .int 0, .int 0])), (a1, .inl (E.2.2 1, 1600, .inl g47))]) rfl rfl ⟨g47, rfl, rfl⟩ (by decide +kernel)
set_option maxHeartbeats 4000000 in
set_option maxRecDepth 100000 in
theorem aX9_feed_5 (E : mp_E) (a0 a1 a2 a3 a4 a5 a6 a7 a8 a9 a10 a11 : Nat) (x0 : Int32) (x1 : Int32) (x2 : Int32) (x3 : Int32) (x4 : Int32) : mp_Ct E yX9_feed cX9_feed 6 (some FieldType.int) 1 0 0 22 [.ref a0, .int x0, .int x1, .int x2, .int x3, .int x4] [(a0, .inr (9, [.ref a1, .ref a3, .ref a4, .ref a5, .ref a6, .ref a7, .ref a8, .ref a9, .ref a10])), (a1, .inr (3, [.ref a2, .int 0, .ref a11, .int 0, .int (-1), .int 0, .int 0, .int 0, .int 0, .int 0])), (a2, .inl (E.2.2 1, 1600, .inl (fun _ => 0)))] (fun v w' => v = some (.int 20) ∧ w' = []) := by
  refine mp_met false (by decide) (by decide) (Nat.le_of_ble_eq_true rfl) (fun X hF hQ => ?_)
  have hF : mp_F E X (RX9, cX9_feed, 6, (1, 0, 0, 22), (some FieldType.int), false) := hF
  show mp_W E X 6 0 [(0, .ref a0), (1, .int x0), (2, .int x1), (3, .int x2), (4, .int x3), (5, .int x4)] [] [(a0, .inr (9, [.ref a1, .ref a3, .ref a4, .ref a5, .ref a6, .ref a7, .ref a8, .ref a9, .ref a10])), (a1, .inr (3, [.ref a2, .int 0, .ref a11, .int 0, .int (-1), .int 0, .int 0, .int 0, .int 0, .int 0])), (a2, .inl (E.2.2 1, 1600, .inl (fun _ => 0)))] 0 0
  refine mp_run hF mp_tabX9_ok [mp_i (.aload_n 0), mp_h (.getfield 10) [36, 0], mp_h (.getfield 71) [16, 1], mp_c (.bipush 20) 20, mp_i .iadd, mp_c (.sipush 1600) 1600, mp_h (.if_icmp .le 5) [18]] (by decide +kernel) ?_
  refine And.intro rfl (And.intro rfl ?_)
  refine And.intro rfl (And.intro rfl ?_)
  intro z1 h2
  obtain rfl : z1 = 20 := h2.trans (by decide)
  refine And.intro (fun _ => ?_) (fun c3 => absurd c3 (by decide))
  show mp_W E X 6 18 [(0, .ref a0), (1, .int x0), (2, .int x1), (3, .int x2), (4, .int x3), (5, .int x4)] [] [(a0, .inr (9, [.ref a1, .ref a3, .ref a4, .ref a5, .ref a6, .ref a7, .ref a8, .ref a9, .ref a10])), (a1, .inr (3, [.ref a2, .int 0, .ref a11, .int 0, .int (-1), .int 0, .int 0, .int 0, .int 0, .int 0])), (a2, .inl (E.2.2 1, 1600, .inl (fun _ => 0)))] 0 0
  refine mp_run hF mp_tabX9_ok [mp_i (.aload_n 0), mp_h (.getfield 10) [36, 0], mp_i (.iload_n 1)] (by decide +kernel) ?_
  refine And.intro rfl (And.intro rfl ?_)
  show mp_W E X 6 23 [(0, .ref a0), (1, .int x0), (2, .int x1), (3, .int x2), (4, .int x3), (5, .int x4)] [.int x0, .ref a1] [(a0, .inr (9, [.ref a1, .ref a3, .ref a4, .ref a5, .ref a6, .ref a7, .ref a8, .ref a9, .ref a10])), (a1, .inr (3, [.ref a2, .int 0, .ref a11, .int 0, .int (-1), .int 0, .int 0, .int 0, .int 0, .int 0])), (a2, .inl (E.2.2 1, 1600, .inl (fun _ => 0)))] 0 0
  refine mp_callV hF (As := [.int x0]) (rest := []) (wr := [(a0, .inr (9, [.ref a1, .ref a3, .ref a4, .ref a5, .ref a6, .ref a7, .ref a8, .ref a9, .ref a10]))]) (aX3_addFour_0 E a1 a2 a11 x0) mp_lkX9_75 1 rfl [1, 2] [0] rfl rfl rfl rfl rfl ⟨(Nat.le_of_ble_eq_true rfl), (Nat.le_of_ble_eq_true rfl), (Nat.le_of_ble_eq_true rfl), (Nat.le_of_ble_eq_true rfl)⟩ (Nat.le_of_ble_eq_true rfl) (by decide +kernel) (fun v4 w5 h6 => ?_)
  obtain ⟨g7, rfl, rfl⟩ := h6
  show mp_W E X 6 26 [(0, .ref a0), (1, .int x0), (2, .int x1), (3, .int x2), (4, .int x3), (5, .int x4)] [] [(a0, .inr (9, [.ref a1, .ref a3, .ref a4, .ref a5, .ref a6, .ref a7, .ref a8, .ref a9, .ref a10])), (a1, .inr (3, [.ref a2, .int 4, .ref a11, .int 0, .int (-1), .int 0, .int 0, .int 0, .int 0, .int 0])), (a2, .inl (E.2.2 1, 1600, .inl g7))] 0 0
  refine mp_run hF mp_tabX9_ok [mp_i (.aload_n 0), mp_h (.getfield 10) [36, 0], mp_i (.iload_n 2)] (by decide +kernel) ?_
  refine And.intro rfl (And.intro rfl ?_)
  show mp_W E X 6 31 [(0, .ref a0), (1, .int x0), (2, .int x1), (3, .int x2), (4, .int x3), (5, .int x4)] [.int x1, .ref a1] [(a0, .inr (9, [.ref a1, .ref a3, .ref a4, .ref a5, .ref a6, .ref a7, .ref a8, .ref a9, .ref a10])), (a1, .inr (3, [.ref a2, .int 4, .ref a11, .int 0, .int (-1), .int 0, .int 0, .int 0, .int 0, .int 0])), (a2, .inl (E.2.2 1, 1600, .inl g7))] 0 0
  refine mp_callV hF (As := [.int x1]) (rest := []) (wr := [(a0, .inr (9, [.ref a1, .ref a3, .ref a4, .ref a5, .ref a6, .ref a7, .ref a8, .ref a9, .ref a10]))]) (aX3_addFour_1 E a1 a2 a11 g7 x1) mp_lkX9_75 1 rfl [1, 2] [0] rfl rfl rfl rfl rfl ⟨(Nat.le_of_ble_eq_true rfl), (Nat.le_of_ble_eq_true rfl), (Nat.le_of_ble_eq_true rfl), (Nat.le_of_ble_eq_true rfl)⟩ (Nat.le_of_ble_eq_true rfl) (by decide +kernel) (fun v8 w9 h10 => ?_)
  obtain ⟨g11, rfl, rfl⟩ := h10
  show mp_W E X 6 34 [(0, .ref a0), (1, .int x0), (2, .int x1), (3, .int x2), (4, .int x3), (5, .int x4)] [] [(a0, .inr (9, [.ref a1, .ref a3, .ref a4, .ref a5, .ref a6, .ref a7, .ref a8, .ref a9, .ref a10])), (a1, .inr (3, [.ref a2, .int 8, .ref a11, .int 0, .int (-1), .int 0, .int 0, .int 0, .int 0, .int 0])), (a2, .inl (E.2.2 1, 1600, .inl g11))] 0 0
  refine mp_run hF mp_tabX9_ok [mp_i (.aload_n 0), mp_h (.getfield 10) [36, 0], mp_i (.iload_n 3)] (by decide +kernel) ?_
  refine And.intro rfl (And.intro rfl ?_)
  show mp_W E X 6 39 [(0, .ref a0), (1, .int x0), (2, .int x1), (3, .int x2), (4, .int x3), (5, .int x4)] [.int x2, .ref a1] [(a0, .inr (9, [.ref a1, .ref a3, .ref a4, .ref a5, .ref a6, .ref a7, .ref a8, .ref a9, .ref a10])), (a1, .inr (3, [.ref a2, .int 8, .ref a11, .int 0, .int (-1), .int 0, .int 0, .int 0, .int 0, .int 0])), (a2, .inl (E.2.2 1, 1600, .inl g11))] 0 0
  refine mp_callV hF (As := [.int x2]) (rest := []) (wr := [(a0, .inr (9, [.ref a1, .ref a3, .ref a4, .ref a5, .ref a6, .ref a7, .ref a8, .ref a9, .ref a10]))]) (aX3_addFour_2 E a1 a2 a11 g11 x2) mp_lkX9_75 1 rfl [1, 2] [0] rfl rfl rfl rfl rfl ⟨(Nat.le_of_ble_eq_true rfl), (Nat.le_of_ble_eq_true rfl), (Nat.le_of_ble_eq_true rfl), (Nat.le_of_ble_eq_true rfl)⟩ (Nat.le_of_ble_eq_true rfl) (by decide +kernel) (fun v12 w13 h14 => ?_)
  obtain ⟨g15, rfl, rfl⟩ := h14
  show mp_W E X 6 42 [(0, .ref a0), (1, .int x0), (2, .int x1), (3, .int x2), (4, .int x3), (5, .int x4)] [] [(a0, .inr (9, [.ref a1, .ref a3, .ref a4, .ref a5, .ref a6, .ref a7, .ref a8, .ref a9, .ref a10])), (a1, .inr (3, [.ref a2, .int 12, .ref a11, .int 0, .int (-1), .int 0, .int 0, .int 0, .int 0, .int 0])), (a2, .inl (E.2.2 1, 1600, .inl g15))] 0 0
  refine mp_run hF mp_tabX9_ok [mp_i (.aload_n 0), mp_h (.getfield 10) [36, 0], mp_i (.iload 4)] (by decide +kernel) ?_
  refine And.intro rfl (And.intro rfl ?_)
  show mp_W E X 6 48 [(0, .ref a0), (1, .int x0), (2, .int x1), (3, .int x2), (4, .int x3), (5, .int x4)] [.int x3, .ref a1] [(a0, .inr (9, [.ref a1, .ref a3, .ref a4, .ref a5, .ref a6, .ref a7, .ref a8, .ref a9, .ref a10])), (a1, .inr (3, [.ref a2, .int 12, .ref a11, .int 0, .int (-1), .int 0, .int 0, .int 0, .int 0, .int 0])), (a2, .inl (E.2.2 1, 1600, .inl g15))] 0 0
  refine mp_callV hF (As := [.int x3]) (rest := []) (wr := [(a0, .inr (9, [.ref a1, .ref a3, .ref a4, .ref a5, .ref a6, .ref a7, .ref a8, .ref a9, .ref a10]))]) (aX3_addFour_3 E a1 a2 a11 g15 x3) mp_lkX9_75 1 rfl [1, 2] [0] rfl rfl rfl rfl rfl ⟨(Nat.le_of_ble_eq_true rfl), (Nat.le_of_ble_eq_true rfl), (Nat.le_of_ble_eq_true rfl), (Nat.le_of_ble_eq_true rfl)⟩ (Nat.le_of_ble_eq_true rfl) (by decide +kernel) (fun v16 w17 h18 => ?_)
  obtain ⟨g19, rfl, rfl⟩ := h18
  show mp_W E X 6 51 [(0, .ref a0), (1, .int x0), (2, .int x1), (3, .int x2), (4, .int x3), (5, .int x4)] [] [(a0, .inr (9, [.ref a1, .ref a3, .ref a4, .ref a5, .ref a6, .ref a7, .ref a8, .ref a9, .ref a10])), (a1, .inr (3, [.ref a2, .int 16, .ref a11, .int 0, .int (-1), .int 0, .int 0, .int 0, .int 0, .int 0])), (a2, .inl (E.2.2 1, 1600, .inl g19))] 0 0
  refine mp_run hF mp_tabX9_ok [mp_i (.aload_n 0), mp_h (.getfield 10) [36, 0], mp_i (.iload 5)] (by decide +kernel) ?_
  refine And.intro rfl (And.intro rfl ?_)
  show mp_W E X 6 57 [(0, .ref a0), (1, .int x0), (2, .int x1), (3, .int x2), (4, .int x3), (5, .int x4)] [.int x4, .ref a1] [(a0, .inr (9, [.ref a1, .ref a3, .ref a4, .ref a5, .ref a6, .ref a7, .ref a8, .ref a9, .ref a10])), (a1, .inr (3, [.ref a2, .int 16, .ref a11, .int 0, .int (-1), .int 0, .int 0, .int 0, .int 0, .int 0])), (a2, .inl (E.2.2 1, 1600, .inl g19))] 0 0
  refine mp_callV hF (As := [.int x4]) (rest := []) (wr := [(a0, .inr (9, [.ref a1, .ref a3, .ref a4, .ref a5, .ref a6, .ref a7, .ref a8, .ref a9, .ref a10]))]) (aX3_addFour_4 E a1 a2 a11 g19 x4) mp_lkX9_75 1 rfl [1, 2] [0] rfl rfl rfl rfl rfl ⟨(Nat.le_of_ble_eq_true rfl), (Nat.le_of_ble_eq_true rfl), (Nat.le_of_ble_eq_true rfl), (Nat.le_of_ble_eq_true rfl)⟩ (Nat.le_of_ble_eq_true rfl) (by decide +kernel) (fun v20 w21 h22 => ?_)
  obtain ⟨g23, rfl, rfl⟩ := h22
  show mp_W E X 6 60 [(0, .ref a0), (1, .int x0), (2, .int x1), (3, .int x2), (4, .int x3), (5, .int x4)] [] [(a0, .inr (9, [.ref a1, .ref a3, .ref a4, .ref a5, .ref a6, .ref a7, .ref a8, .ref a9, .ref a10])), (a1, .inr (3, [.ref a2, .int 20, .ref a11, .int 0, .int (-1), .int 0, .int 0, .int 0, .int 0, .int 0])), (a2, .inl (E.2.2 1, 1600, .inl g23))] 0 0
  refine mp_run hF mp_tabX9_ok [mp_i (.aload_n 0), mp_h (.getfield 10) [36, 0], mp_h (.getfield 71) [16, 1]] (by decide +kernel) ?_
  refine And.intro rfl (And.intro rfl ?_)
  refine And.intro rfl (And.intro rfl ?_)
  show mp_W E X 6 67 [(0, .ref a0), (1, .int x0), (2, .int x1), (3, .int x2), (4, .int x3), (5, .int x4)] [.int 20] [(a0, .inr (9, [.ref a1, .ref a3, .ref a4, .ref a5, .ref a6, .ref a7, .ref a8, .ref a9, .ref a10])), (a1, .inr (3, [.ref a2, .int 20, .ref a11, .int 0, .int (-1), .int 0, .int 0, .int 0, .int 0, .int 0])), (a2, .inl (E.2.2 1, 1600, .inl g23))] 0 0
  exact mp_iret hF hQ rfl rfl (Nat.le_of_ble_eq_true rfl) (Nat.le_of_ble_eq_true rfl) [] (w' := []) rfl rfl ⟨rfl, rfl⟩ (by decide +kernel)
set_option maxHeartbeats 4000000 in
set_option maxRecDepth 100000 in
theorem aX10_four_6 (E : mp_E) (a0 a1 a2 a3 a4 a5 a6 a7 a8 a9 a10 a11 a12 a13 a14 a15 a16 a17 a18 a19 a20 a21 a22 a23 a24 a25 : Nat) (x0 : Int32) : mp_Ct E yX10_four cX10_four 3 none 0 0 0 0 [.ref a0, .int x0] [(a0, .inr (10, [.int 0, .ref a2, .ref a3, .ref a4, .ref a5, .ref a1, .int 0, .int 0, .int 0, .int 0, .int 0, .long 0, .int 0, .int 0, .int 0, .int (-1), .ref a6, .ref a7, .ref a8, .ref a9, .ref a10, .ref a11, .ref a12, .ref a13, .int 0, .ref a14, .ref a15, .ref a16, .ref a17, .int 0, .int 0, .int 0, .ref a18, .ref a19, .int 0, .int 0, .ref a20, .ref a21, .ref a22, .int 0, .int 0, .int 0, .int 0, .ref a23, .ref a24, .ref a25, .int 0])), (a1, .inl (E.2.2 1, 1600, .inl (fun _ => 0)))] (fun v w' => ∃ h0 : Nat → Int32, v = none ∧ w' = [(a0, .inr (10, [.int 0, .ref a2, .ref a3, .ref a4, .ref a5, .ref a1, .int 4, .int 0, .int 0, .int 0, .int 0, .long 0, .int 0, .int 0, .int 0, .int (-1), .ref a6, .ref a7, .ref a8, .ref a9, .ref a10, .ref a11, .ref a12, .ref a13, .int 0, .ref a14, .ref a15, .ref a16, .ref a17, .int 0, .int 0, .int 0, .ref a18, .ref a19, .int 0, .int 0, .ref a20, .ref a21, .ref a22, .int 0, .int 0, .int 0, .int 0, .ref a23, .ref a24, .ref a25, .int 0])), (a1, .inl (E.2.2 1, 1600, .inl h0))]) := by
  refine mp_met false (by decide) (by decide) (Nat.le_of_ble_eq_true rfl) (fun X hF hQ => ?_)
  have hF : mp_F E X (RX10, cX10_four, 3, (0, 0, 0, 0), none, false) := hF
  show mp_W E X 3 0 [(0, .ref a0), (1, .int x0)] [] [(a0, .inr (10, [.int 0, .ref a2, .ref a3, .ref a4, .ref a5, .ref a1, .int 0, .int 0, .int 0, .int 0, .int 0, .long 0, .int 0, .int 0, .int 0, .int (-1), .ref a6, .ref a7, .ref a8, .ref a9, .ref a10, .ref a11, .ref a12, .ref a13, .int 0, .ref a14, .ref a15, .ref a16, .ref a17, .int 0, .int 0, .int 0, .ref a18, .ref a19, .int 0, .int 0, .ref a20, .ref a21, .ref a22, .int 0, .int 0, .int 0, .int 0, .ref a23, .ref a24, .ref a25, .int 0])), (a1, .inl (E.2.2 1, 1600, .inl (fun _ => 0)))] 0 0
  refine mp_run hF mp_tabX10_ok [mp_c (.bipush 24) 24, mp_i (.istore_n 2), mp_i (.iload_n 2), mp_h (.ifCond .lt 32) [36]] (by decide +kernel) ?_
  refine And.intro (fun c1 => absurd c1 (by decide)) (fun _ => ?_)
  show mp_W E X 3 7 [(2, .int 24), (0, .ref a0), (1, .int x0)] [] [(a0, .inr (10, [.int 0, .ref a2, .ref a3, .ref a4, .ref a5, .ref a1, .int 0, .int 0, .int 0, .int 0, .int 0, .long 0, .int 0, .int 0, .int 0, .int (-1), .ref a6, .ref a7, .ref a8, .ref a9, .ref a10, .ref a11, .ref a12, .ref a13, .int 0, .ref a14, .ref a15, .ref a16, .ref a17, .int 0, .int 0, .int 0, .ref a18, .ref a19, .int 0, .int 0, .ref a20, .ref a21, .ref a22, .int 0, .int 0, .int 0, .int 0, .ref a23, .ref a24, .ref a25, .int 0])), (a1, .inl (E.2.2 1, 1600, .inl (fun _ => 0)))] 0 0
  refine mp_run hF mp_tabX10_ok [mp_i (.aload_n 0), mp_h (.getfield 23) [5, 0], mp_i (.aload_n 0), mp_h (.getfield 109) [6, 0], mp_i (.iload_n 1), mp_i (.iload_n 2), mp_i .ishr, mp_i .i2b, mp_h .bastore [1]] (by decide +kernel) ?_
  refine And.intro rfl (And.intro rfl ?_)
  refine And.intro rfl (And.intro rfl ?_)
  intro z2 h3
  intro z5 h6
  refine And.intro rfl (And.intro rfl (And.intro (vp_in_iff.mpr (by decide)) ?_))
  intro g7 h8
  show mp_W E X 3 20 [(2, .int 24), (0, .ref a0), (1, .int x0)] [] [(a0, .inr (10, [.int 0, .ref a2, .ref a3, .ref a4, .ref a5, .ref a1, .int 0, .int 0, .int 0, .int 0, .int 0, .long 0, .int 0, .int 0, .int 0, .int (-1), .ref a6, .ref a7, .ref a8, .ref a9, .ref a10, .ref a11, .ref a12, .ref a13, .int 0, .ref a14, .ref a15, .ref a16, .ref a17, .int 0, .int 0, .int 0, .ref a18, .ref a19, .int 0, .int 0, .ref a20, .ref a21, .ref a22, .int 0, .int 0, .int 0, .int 0, .ref a23, .ref a24, .ref a25, .int 0])), (a1, .inl (E.2.2 1, 1600, .inl g7))] 0 0
  refine mp_run hF mp_tabX10_ok [mp_i (.aload_n 0), mp_i .dup, mp_h (.getfield 109) [6, 0], mp_c (.iconst 1) 1, mp_i .iadd, mp_h (.putfield 109) [6, 0]] (by decide +kernel) ?_
  refine And.intro rfl ?_
  refine And.intro rfl (And.intro rfl ?_)
  intro z9 h10
  obtain rfl : z9 = 1 := h10.trans (by decide)
  refine And.intro rfl (And.intro rfl (And.intro rfl (And.intro rfl (And.intro (Nat.le_of_ble_eq_true rfl) ?_))))
  show mp_W E X 3 30 [(2, .int 24), (0, .ref a0), (1, .int x0)] [] [(a0, .inr (10, [.int 0, .ref a2, .ref a3, .ref a4, .ref a5, .ref a1, .int 1, .int 0, .int 0, .int 0, .int 0, .long 0, .int 0, .int 0, .int 0, .int (-1), .ref a6, .ref a7, .ref a8, .ref a9, .ref a10, .ref a11, .ref a12, .ref a13, .int 0, .ref a14, .ref a15, .ref a16, .ref a17, .int 0, .int 0, .int 0, .ref a18, .ref a19, .int 0, .int 0, .ref a20, .ref a21, .ref a22, .int 0, .int 0, .int 0, .int 0, .ref a23, .ref a24, .ref a25, .int 0])), (a1, .inl (E.2.2 1, 1600, .inl g7))] 0 0
  refine mp_run hF mp_tabX10_ok [mp_c (.iinc 2 (-8)) (-8), mp_h (.goto (-30)) [3], mp_i (.iload_n 2), mp_h (.ifCond .lt 32) [36]] (by decide +kernel) ?_
  intro z11 h12
  obtain rfl : z11 = 16 := h12.trans (by decide)
  refine And.intro (fun c13 => absurd c13 (by decide)) (fun _ => ?_)
  show mp_W E X 3 7 [(2, .int 16), (0, .ref a0), (1, .int x0)] [] [(a0, .inr (10, [.int 0, .ref a2, .ref a3, .ref a4, .ref a5, .ref a1, .int 1, .int 0, .int 0, .int 0, .int 0, .long 0, .int 0, .int 0, .int 0, .int (-1), .ref a6, .ref a7, .ref a8, .ref a9, .ref a10, .ref a11, .ref a12, .ref a13, .int 0, .ref a14, .ref a15, .ref a16, .ref a17, .int 0, .int 0, .int 0, .ref a18, .ref a19, .int 0, .int 0, .ref a20, .ref a21, .ref a22, .int 0, .int 0, .int 0, .int 0, .ref a23, .ref a24, .ref a25, .int 0])), (a1, .inl (E.2.2 1, 1600, .inl g7))] 0 0
  refine mp_run hF mp_tabX10_ok [mp_i (.aload_n 0), mp_h (.getfield 23) [5, 0], mp_i (.aload_n 0), mp_h (.getfield 109) [6, 0], mp_i (.iload_n 1), mp_i (.iload_n 2), mp_i .ishr, mp_i .i2b, mp_h .bastore [1]] (by decide +kernel) ?_
  refine And.intro rfl (And.intro rfl ?_)
  refine And.intro rfl (And.intro rfl ?_)
  intro z14 h15
  intro z17 h18
  refine And.intro rfl (And.intro rfl (And.intro (vp_in_iff.mpr (by decide)) ?_))
  intro g19 h20
  show mp_W E X 3 20 [(2, .int 16), (0, .ref a0), (1, .int x0)] [] [(a0, .inr (10, [.int 0, .ref a2, .ref a3, .ref a4, .ref a5, .ref a1, .int 1, .int 0, .int 0, .int 0, .int 0, .long 0, .int 0, .int 0, .int 0, .int (-1), .ref a6, .ref a7, .ref a8, .ref a9, .ref a10, .ref a11, .ref a12, .ref a13, .int 0, .ref a14, .ref a15, .ref a16, .ref a17, .int 0, .int 0, .int 0, .ref a18, .ref a19, .int 0, .int 0, .ref a20, .ref a21, .ref a22, .int 0, .int 0, .int 0, .int 0, .ref a23, .ref a24, .ref a25, .int 0])), (a1, .inl (E.2.2 1, 1600, .inl g19))] 0 0
  refine mp_run hF mp_tabX10_ok [mp_i (.aload_n 0), mp_i .dup, mp_h (.getfield 109) [6, 0], mp_c (.iconst 1) 1, mp_i .iadd, mp_h (.putfield 109) [6, 0]] (by decide +kernel) ?_
  refine And.intro rfl ?_
  refine And.intro rfl (And.intro rfl ?_)
  intro z21 h22
  obtain rfl : z21 = 2 := h22.trans (by decide)
  refine And.intro rfl (And.intro rfl (And.intro rfl (And.intro rfl (And.intro (Nat.le_of_ble_eq_true rfl) ?_))))
  show mp_W E X 3 30 [(2, .int 16), (0, .ref a0), (1, .int x0)] [] [(a0, .inr (10, [.int 0, .ref a2, .ref a3, .ref a4, .ref a5, .ref a1, .int 2, .int 0, .int 0, .int 0, .int 0, .long 0, .int 0, .int 0, .int 0, .int (-1), .ref a6, .ref a7, .ref a8, .ref a9, .ref a10, .ref a11, .ref a12, .ref a13, .int 0, .ref a14, .ref a15, .ref a16, .ref a17, .int 0, .int 0, .int 0, .ref a18, .ref a19, .int 0, .int 0, .ref a20, .ref a21, .ref a22, .int 0, .int 0, .int 0, .int 0, .ref a23, .ref a24, .ref a25, .int 0])), (a1, .inl (E.2.2 1, 1600, .inl g19))] 0 0
  refine mp_run hF mp_tabX10_ok [mp_c (.iinc 2 (-8)) (-8), mp_h (.goto (-30)) [3], mp_i (.iload_n 2), mp_h (.ifCond .lt 32) [36]] (by decide +kernel) ?_
  intro z23 h24
  obtain rfl : z23 = 8 := h24.trans (by decide)
  refine And.intro (fun c25 => absurd c25 (by decide)) (fun _ => ?_)
  show mp_W E X 3 7 [(2, .int 8), (0, .ref a0), (1, .int x0)] [] [(a0, .inr (10, [.int 0, .ref a2, .ref a3, .ref a4, .ref a5, .ref a1, .int 2, .int 0, .int 0, .int 0, .int 0, .long 0, .int 0, .int 0, .int 0, .int (-1), .ref a6, .ref a7, .ref a8, .ref a9, .ref a10, .ref a11, .ref a12, .ref a13, .int 0, .ref a14, .ref a15, .ref a16, .ref a17, .int 0, .int 0, .int 0, .ref a18, .ref a19, .int 0, .int 0, .ref a20, .ref a21, .ref a22, .int 0, .int 0, .int 0, .int 0, .ref a23, .ref a24, .ref a25, .int 0])), (a1, .inl (E.2.2 1, 1600, .inl g19))] 0 0
  refine mp_run hF mp_tabX10_ok [mp_i (.aload_n 0), mp_h (.getfield 23) [5, 0], mp_i (.aload_n 0), mp_h (.getfield 109) [6, 0], mp_i (.iload_n 1), mp_i (.iload_n 2), mp_i .ishr, mp_i .i2b, mp_h .bastore [1]] (by decide +kernel) ?_
  refine And.intro rfl (And.intro rfl ?_)
  refine And.intro rfl (And.intro rfl ?_)
  intro z26 h27
  intro z29 h30
  refine And.intro rfl (And.intro rfl (And.intro (vp_in_iff.mpr (by decide)) ?_))
  intro g31 h32
  show mp_W E X 3 20 [(2, .int 8), (0, .ref a0), (1, .int x0)] [] [(a0, .inr (10, [.int 0, .ref a2, .ref a3, .ref a4, .ref a5, .ref a1, .int 2, .int 0, .int 0, .int 0, .int 0, .long 0, .int 0, .int 0, .int 0, .int (-1), .ref a6, .ref a7, .ref a8, .ref a9, .ref a10, .ref a11, .ref a12, .ref a13, .int 0, .ref a14, .ref a15, .ref a16, .ref a17, .int 0, .int 0, .int 0, .ref a18, .ref a19, .int 0, .int 0, .ref a20, .ref a21, .ref a22, .int 0, .int 0, .int 0, .int 0, .ref a23, .ref a24, .ref a25, .int 0])), (a1, .inl (E.2.2 1, 1600, .inl g31))] 0 0
  refine mp_run hF mp_tabX10_ok [mp_i (.aload_n 0), mp_i .dup, mp_h (.getfield 109) [6, 0], mp_c (.iconst 1) 1, mp_i .iadd, mp_h (.putfield 109) [6, 0]] (by decide +kernel) ?_
  refine And.intro rfl ?_
  refine And.intro rfl (And.intro rfl ?_)
  intro z33 h34
  obtain rfl : z33 = 3 := h34.trans (by decide)
  refine And.intro rfl (And.intro rfl (And.intro rfl (And.intro rfl (And.intro (Nat.le_of_ble_eq_true rfl) ?_))))
  show mp_W E X 3 30 [(2, .int 8), (0, .ref a0), (1, .int x0)] [] [(a0, .inr (10, [.int 0, .ref a2, .ref a3, .ref a4, .ref a5, .ref a1, .int 3, .int 0, .int 0, .int 0, .int 0, .long 0, .int 0, .int 0, .int 0, .int (-1), .ref a6, .ref a7, .ref a8, .ref a9, .ref a10, .ref a11, .ref a12, .ref a13, .int 0, .ref a14, .ref a15, .ref a16, .ref a17, .int 0, .int 0, .int 0, .ref a18, .ref a19, .int 0, .int 0, .ref a20, .ref a21, .ref a22, .int 0, .int 0, .int 0, .int 0, .ref a23, .ref a24, .ref a25, .int 0])), (a1, .inl (E.2.2 1, 1600, .inl g31))] 0 0
  refine mp_run hF mp_tabX10_ok [mp_c (.iinc 2 (-8)) (-8), mp_h (.goto (-30)) [3], mp_i (.iload_n 2), mp_h (.ifCond .lt 32) [36]] (by decide +kernel) ?_
  intro z35 h36
  obtain rfl : z35 = 0 := h36.trans (by decide)
  refine And.intro (fun c37 => absurd c37 (by decide)) (fun _ => ?_)
  show mp_W E X 3 7 [(2, .int 0), (0, .ref a0), (1, .int x0)] [] [(a0, .inr (10, [.int 0, .ref a2, .ref a3, .ref a4, .ref a5, .ref a1, .int 3, .int 0, .int 0, .int 0, .int 0, .long 0, .int 0, .int 0, .int 0, .int (-1), .ref a6, .ref a7, .ref a8, .ref a9, .ref a10, .ref a11, .ref a12, .ref a13, .int 0, .ref a14, .ref a15, .ref a16, .ref a17, .int 0, .int 0, .int 0, .ref a18, .ref a19, .int 0, .int 0, .ref a20, .ref a21, .ref a22, .int 0, .int 0, .int 0, .int 0, .ref a23, .ref a24, .ref a25, .int 0])), (a1, .inl (E.2.2 1, 1600, .inl g31))] 0 0
  refine mp_run hF mp_tabX10_ok [mp_i (.aload_n 0), mp_h (.getfield 23) [5, 0], mp_i (.aload_n 0), mp_h (.getfield 109) [6, 0], mp_i (.iload_n 1), mp_i (.iload_n 2), mp_i .ishr, mp_i .i2b, mp_h .bastore [1]] (by decide +kernel) ?_
  refine And.intro rfl (And.intro rfl ?_)
  refine And.intro rfl (And.intro rfl ?_)
  intro z38 h39
  intro z41 h42
  refine And.intro rfl (And.intro rfl (And.intro (vp_in_iff.mpr (by decide)) ?_))
  intro g43 h44
  show mp_W E X 3 20 [(2, .int 0), (0, .ref a0), (1, .int x0)] [] [(a0, .inr (10, [.int 0, .ref a2, .ref a3, .ref a4, .ref a5, .ref a1, .int 3, .int 0, .int 0, .int 0, .int 0, .long 0, .int 0, .int 0, .int 0, .int (-1), .ref a6, .ref a7, .ref a8, .ref a9, .ref a10, .ref a11, .ref a12, .ref a13, .int 0, .ref a14, .ref a15, .ref a16, .ref a17, .int 0, .int 0, .int 0, .ref a18, .ref a19, .int 0, .int 0, .ref a20, .ref a21, .ref a22, .int 0, .int 0, .int 0, .int 0, .ref a23, .ref a24, .ref a25, .int 0])), (a1, .inl (E.2.2 1, 1600, .inl g43))] 0 0
  refine mp_run hF mp_tabX10_ok [mp_i (.aload_n 0), mp_i .dup, mp_h (.getfield 109) [6, 0], mp_c (.iconst 1) 1, mp_i .iadd, mp_h (.putfield 109) [6, 0]] (by decide +kernel) ?_
  refine And.intro rfl ?_
  refine And.intro rfl (And.intro rfl ?_)
  intro z45 h46
  obtain rfl : z45 = 4 := h46.trans (by decide)
  refine And.intro rfl (And.intro rfl (And.intro rfl (And.intro rfl (And.intro (Nat.le_of_ble_eq_true rfl) ?_))))
  show mp_W E X 3 30 [(2, .int 0), (0, .ref a0), (1, .int x0)] [] [(a0, .inr (10, [.int 0, .ref a2, .ref a3, .ref a4, .ref a5, .ref a1, .int 4, .int 0, .int 0, .int 0, .int 0, .long 0, .int 0, .int 0, .int 0, .int (-1), .ref a6, .ref a7, .ref a8, .ref a9, .ref a10, .ref a11, .ref a12, .ref a13, .int 0, .ref a14, .ref a15, .ref a16, .ref a17, .int 0, .int 0, .int 0, .ref a18, .ref a19, .int 0, .int 0, .ref a20, .ref a21, .ref a22, .int 0, .int 0, .int 0, .int 0, .ref a23, .ref a24, .ref a25, .int 0])), (a1, .inl (E.2.2 1, 1600, .inl g43))] 0 0
  refine mp_run hF mp_tabX10_ok [mp_c (.iinc 2 (-8)) (-8), mp_h (.goto (-30)) [3], mp_i (.iload_n 2), mp_h (.ifCond .lt 32) [36]] (by decide +kernel) ?_
  intro z47 h48
  obtain rfl : z47 = (-8) := h48.trans (by decide)
  refine And.intro (fun _ => ?_) (fun c49 => absurd c49 (by decide))
  show mp_W E X 3 36 [(2, .int (-8)), (0, .ref a0), (1, .int x0)] [] [(a0, .inr (10, [.int 0, .ref a2, .ref a3, .ref a4, .ref a5, .ref a1, .int 4, .int 0, .int 0, .int 0, .int 0, .long 0, .int 0, .int 0, .int 0, .int (-1), .ref a6, .ref a7, .ref a8, .ref a9, .ref a10, .ref a11, .ref a12, .ref a13, .int 0, .ref a14, .ref a15, .ref a16, .ref a17, .int 0, .int 0, .int 0, .ref a18, .ref a19, .int 0, .int 0, .ref a20, .ref a21, .ref a22, .int 0, .int 0, .int 0, .int 0, .ref a23, .ref a24, .ref a25, .int 0])), (a1, .inl (E.2.2 1, 1600, .inl g43))] 0 0
  exact mp_vret hF hQ rfl (Nat.le_of_ble_eq_true rfl) (Nat.le_of_ble_eq_true rfl) [0, 1] (w' := [(a0, .inr (10, [.int 0, .ref a2, .ref a3, .ref a4, .ref a5, .ref a1, .int 4, .int 0, .int 0, .int 0, .int 0, .long 0, .int 0, .int 0, .int 0, .int (-1), .ref a6, .ref a7, .ref a8, .ref a9, .ref a10, .ref a11, .ref a12, .ref a13, .int 0, .ref a14, .ref a15, .ref a16, .ref a17, .int 0, .int 0, .int 0, .ref a18, .ref a19, .int 0, .int 0, .ref a20, .ref a21, .ref a22, .int 0, .int 0, .int 0, .int 0, .ref a23, .ref a24, .ref a25, .int 0])), (a1, .inl (E.2.2 1, 1600, .inl g43))]) rfl rfl ⟨g43, rfl, rfl⟩ (by decide +kernel)
set_option maxHeartbeats 4000000 in
set_option maxRecDepth 100000 in
theorem aX10_four_7 (E : mp_E) (a0 a1 a2 a3 a4 a5 a6 a7 a8 a9 a10 a11 a12 a13 a14 a15 a16 a17 a18 a19 a20 a21 a22 a23 a24 a25 : Nat) (f0 : Nat → Int32) (x0 : Int32) : mp_Ct E yX10_four cX10_four 3 none 0 0 0 0 [.ref a0, .int x0] [(a0, .inr (10, [.int 0, .ref a2, .ref a3, .ref a4, .ref a5, .ref a1, .int 4, .int 0, .int 0, .int 0, .int 0, .long 0, .int 0, .int 0, .int 0, .int (-1), .ref a6, .ref a7, .ref a8, .ref a9, .ref a10, .ref a11, .ref a12, .ref a13, .int 0, .ref a14, .ref a15, .ref a16, .ref a17, .int 0, .int 0, .int 0, .ref a18, .ref a19, .int 0, .int 0, .ref a20, .ref a21, .ref a22, .int 0, .int 0, .int 0, .int 0, .ref a23, .ref a24, .ref a25, .int 0])), (a1, .inl (E.2.2 1, 1600, .inl f0))] (fun v w' => ∃ h0 : Nat → Int32, v = none ∧ w' = [(a0, .inr (10, [.int 0, .ref a2, .ref a3, .ref a4, .ref a5, .ref a1, .int 8, .int 0, .int 0, .int 0, .int 0, .long 0, .int 0, .int 0, .int 0, .int (-1), .ref a6, .ref a7, .ref a8, .ref a9, .ref a10, .ref a11, .ref a12, .ref a13, .int 0, .ref a14, .ref a15, .ref a16, .ref a17, .int 0, .int 0, .int 0, .ref a18, .ref a19, .int 0, .int 0, .ref a20, .ref a21, .ref a22, .int 0, .int 0, .int 0, .int 0, .ref a23, .ref a24, .ref a25, .int 0])), (a1, .inl (E.2.2 1, 1600, .inl h0))]) := by
  refine mp_met false (by decide) (by decide) (Nat.le_of_ble_eq_true rfl) (fun X hF hQ => ?_)
  have hF : mp_F E X (RX10, cX10_four, 3, (0, 0, 0, 0), none, false) := hF
  show mp_W E X 3 0 [(0, .ref a0), (1, .int x0)] [] [(a0, .inr (10, [.int 0, .ref a2, .ref a3, .ref a4, .ref a5, .ref a1, .int 4, .int 0, .int 0, .int 0, .int 0, .long 0, .int 0, .int 0, .int 0, .int (-1), .ref a6, .ref a7, .ref a8, .ref a9, .ref a10, .ref a11, .ref a12, .ref a13, .int 0, .ref a14, .ref a15, .ref a16, .ref a17, .int 0, .int 0, .int 0, .ref a18, .ref a19, .int 0, .int 0, .ref a20, .ref a21, .ref a22, .int 0, .int 0, .int 0, .int 0, .ref a23, .ref a24, .ref a25, .int 0])), (a1, .inl (E.2.2 1, 1600, .inl f0))] 0 0
  refine mp_run hF mp_tabX10_ok [mp_c (.bipush 24) 24, mp_i (.istore_n 2), mp_i (.iload_n 2), mp_h (.ifCond .lt 32) [36]] (by decide +kernel) ?_
  refine And.intro (fun c1 => absurd c1 (by decide)) (fun _ => ?_)
  show mp_W E X 3 7 [(2, .int 24), (0, .ref a0), (1, .int x0)] [] [(a0, .inr (10, [.int 0, .ref a2, .ref a3, .ref a4, .ref a5, .ref a1, .int 4, .int 0, .int 0, .int 0, .int 0, .long 0, .int 0, .int 0, .int 0, .int (-1), .ref a6, .ref a7, .ref a8, .ref a9, .ref a10, .ref a11, .ref a12, .ref a13, .int 0, .ref a14, .ref a15, .ref a16, .ref a17, .int 0, .int 0, .int 0, .ref a18, .ref a19, .int 0, .int 0, .ref a20, .ref a21, .ref a22, .int 0, .int 0, .int 0, .int 0, .ref a23, .ref a24, .ref a25, .int 0])), (a1, .inl (E.2.2 1, 1600, .inl f0))] 0 0
  refine mp_run hF mp_tabX10_ok [mp_i (.aload_n 0), mp_h (.getfield 23) [5, 0], mp_i (.aload_n 0), mp_h (.getfield 109) [6, 0], mp_i (.iload_n 1), mp_i (.iload_n 2), mp_i .ishr, mp_i .i2b, mp_h .bastore [1]] (by decide +kernel) ?_
  refine And.intro rfl (And.intro rfl ?_)
  refine And.intro rfl (And.intro rfl ?_)
  intro z2 h3
  intro z5 h6
  refine And.intro rfl (And.intro rfl (And.intro (vp_in_iff.mpr (by decide)) ?_))
  intro g7 h8
  show mp_W E X 3 20 [(2, .int 24), (0, .ref a0), (1, .int x0)] [] [(a0, .inr (10, [.int 0, .ref a2, .ref a3, .ref a4, .ref a5, .ref a1, .int 4, .int 0, .int 0, .int 0, .int 0, .long 0, .int 0, .int 0, .int 0, .int (-1), .ref a6, .ref a7, .ref a8, .ref a9, .ref a10, .ref a11, .ref a12, .ref a13, .int 0, .ref a14, .ref a15, .ref a16, .ref a17, .int 0, .int 0, .int 0, .ref a18, .ref a19, .int 0, .int 0, .ref a20, .ref a21, .ref a22, .int 0, .int 0, .int 0, .int 0, .ref a23, .ref a24, .ref a25, .int 0])), (a1, .inl (E.2.2 1, 1600, .inl g7))] 0 0
  refine mp_run hF mp_tabX10_ok [mp_i (.aload_n 0), mp_i .dup, mp_h (.getfield 109) [6, 0], mp_c (.iconst 1) 1, mp_i .iadd, mp_h (.putfield 109) [6, 0]] (by decide +kernel) ?_
  refine And.intro rfl ?_
  refine And.intro rfl (And.intro rfl ?_)
  intro z9 h10
  obtain rfl : z9 = 5 := h10.trans (by decide)
  refine And.intro rfl (And.intro rfl (And.intro rfl (And.intro rfl (And.intro (Nat.le_of_ble_eq_true rfl) ?_))))
  show mp_W E X 3 30 [(2, .int 24), (0, .ref a0), (1, .int x0)] [] [(a0, .inr (10, [.int 0, .ref a2, .ref a3, .ref a4, .ref a5, .ref a1, .int 5, .int 0, .int 0, .int 0, .int 0, .long 0, .int 0, .int 0, .int 0, .int (-1), .ref a6, .ref a7, .ref a8, .ref a9, .ref a10, .ref a11, .ref a12, .ref a13, .int 0, .ref a14, .ref a15, .ref a16, .ref a17, .int 0, .int 0, .int 0, .ref a18, .ref a19, .int 0, .int 0, .ref a20, .ref a21, .ref a22, .int 0, .int 0, .int 0, .int 0, .ref a23, .ref a24, .ref a25, .int 0])), (a1, .inl (E.2.2 1, 1600, .inl g7))] 0 0
  refine mp_run hF mp_tabX10_ok [mp_c (.iinc 2 (-8)) (-8), mp_h (.goto (-30)) [3], mp_i (.iload_n 2), mp_h (.ifCond .lt 32) [36]] (by decide +kernel) ?_
  intro z11 h12
  obtain rfl : z11 = 16 := h12.trans (by decide)
  refine And.intro (fun c13 => absurd c13 (by decide)) (fun _ => ?_)
  show mp_W E X 3 7 [(2, .int 16), (0, .ref a0), (1, .int x0)] [] [(a0, .inr (10, [.int 0, .ref a2, .ref a3, .ref a4, .ref a5, .ref a1, .int 5, .int 0, .int 0, .int 0, .int 0, .long 0, .int 0, .int 0, .int 0, .int (-1), .ref a6, .ref a7, .ref a8, .ref a9, .ref a10, .ref a11, .ref a12, .ref a13, .int 0, .ref a14, .ref a15, .ref a16, .ref a17, .int 0, .int 0, .int 0, .ref a18, .ref a19, .int 0, .int 0, .ref a20, .ref a21, .ref a22, .int 0, .int 0, .int 0, .int 0, .ref a23, .ref a24, .ref a25, .int 0])), (a1, .inl (E.2.2 1, 1600, .inl g7))] 0 0
  refine mp_run hF mp_tabX10_ok [mp_i (.aload_n 0), mp_h (.getfield 23) [5, 0], mp_i (.aload_n 0), mp_h (.getfield 109) [6, 0], mp_i (.iload_n 1), mp_i (.iload_n 2), mp_i .ishr, mp_i .i2b, mp_h .bastore [1]] (by decide +kernel) ?_
  refine And.intro rfl (And.intro rfl ?_)
  refine And.intro rfl (And.intro rfl ?_)
  intro z14 h15
  intro z17 h18
  refine And.intro rfl (And.intro rfl (And.intro (vp_in_iff.mpr (by decide)) ?_))
  intro g19 h20
  show mp_W E X 3 20 [(2, .int 16), (0, .ref a0), (1, .int x0)] [] [(a0, .inr (10, [.int 0, .ref a2, .ref a3, .ref a4, .ref a5, .ref a1, .int 5, .int 0, .int 0, .int 0, .int 0, .long 0, .int 0, .int 0, .int 0, .int (-1), .ref a6, .ref a7, .ref a8, .ref a9, .ref a10, .ref a11, .ref a12, .ref a13, .int 0, .ref a14, .ref a15, .ref a16, .ref a17, .int 0, .int 0, .int 0, .ref a18, .ref a19, .int 0, .int 0, .ref a20, .ref a21, .ref a22, .int 0, .int 0, .int 0, .int 0, .ref a23, .ref a24, .ref a25, .int 0])), (a1, .inl (E.2.2 1, 1600, .inl g19))] 0 0
  refine mp_run hF mp_tabX10_ok [mp_i (.aload_n 0), mp_i .dup, mp_h (.getfield 109) [6, 0], mp_c (.iconst 1) 1, mp_i .iadd, mp_h (.putfield 109) [6, 0]] (by decide +kernel) ?_
  refine And.intro rfl ?_
  refine And.intro rfl (And.intro rfl ?_)
  intro z21 h22
  obtain rfl : z21 = 6 := h22.trans (by decide)
  refine And.intro rfl (And.intro rfl (And.intro rfl (And.intro rfl (And.intro (Nat.le_of_ble_eq_true rfl) ?_))))
  show mp_W E X 3 30 [(2, .int 16), (0, .ref a0), (1, .int x0)] [] [(a0, .inr (10, [.int 0, .ref a2, .ref a3, .ref a4, .ref a5, .ref a1, .int 6, .int 0, .int 0, .int 0, .int 0, .long 0, .int 0, .int 0, .int 0, .int (-1), .ref a6, .ref a7, .ref a8, .ref a9, .ref a10, .ref a11, .ref a12, .ref a13, .int 0, .ref a14, .ref a15, .ref a16, .ref a17, .int 0, .int 0, .int 0, .ref a18, .ref a19, .int 0, .int 0, .ref a20, .ref a21, .ref a22, .int 0, .int 0, .int 0, .int 0, .ref a23, .ref a24, .ref a25, .int 0])), (a1, .inl (E.2.2 1, 1600, .inl g19))] 0 0
  refine mp_run hF mp_tabX10_ok [mp_c (.iinc 2 (-8)) (-8), mp_h (.goto (-30)) [3], mp_i (.iload_n 2), mp_h (.ifCond .lt 32) [36]] (by decide +kernel) ?_
  intro z23 h24
  obtain rfl : z23 = 8 := h24.trans (by decide)
  refine And.intro (fun c25 => absurd c25 (by decide)) (fun _ => ?_)
  show mp_W E X 3 7 [(2, .int 8), (0, .ref a0), (1, .int x0)] [] [(a0, .inr (10, [.int 0, .ref a2, .ref a3, .ref a4, .ref a5, .ref a1, .int 6, .int 0, .int 0, .int 0, .int 0, .long 0, .int 0, .int 0, .int 0, .int (-1), .ref a6, .ref a7, .ref a8, .ref a9, .ref a10, .ref a11, .ref a12, .ref a13, .int 0, .ref a14, .ref a15, .ref a16, .ref a17, .int 0, .int 0, .int 0, .ref a18, .ref a19, .int 0, .int 0, .ref a20, .ref a21, .ref a22, .int 0, .int 0, .int 0, .int 0, .ref a23, .ref a24, .ref a25, .int 0])), (a1, .inl (E.2.2 1, 1600, .inl g19))] 0 0
  refine mp_run hF mp_tabX10_ok [mp_i (.aload_n 0), mp_h (.getfield 23) [5, 0], mp_i (.aload_n 0), mp_h (.getfield 109) [6, 0], mp_i (.iload_n 1), mp_i (.iload_n 2), mp_i .ishr, mp_i .i2b, mp_h .bastore [1]] (by decide +kernel) ?_
  refine And.intro rfl (And.intro rfl ?_)
  refine And.intro rfl (And.intro rfl ?_)
  intro z26 h27
  intro z29 h30
  refine And.intro rfl (And.intro rfl (And.intro (vp_in_iff.mpr (by decide)) ?_))
  intro g31 h32
  show mp_W E X 3 20 [(2, .int 8), (0, .ref a0), (1, .int x0)] [] [(a0, .inr (10, [.int 0, .ref a2, .ref a3, .ref a4, .ref a5, .ref a1, .int 6, .int 0, .int 0, .int 0, .int 0, .long 0, .int 0, .int 0, .int 0, .int (-1), .ref a6, .ref a7, .ref a8, .ref a9, .ref a10, .ref a11, .ref a12, .ref a13, .int 0, .ref a14, .ref a15, .ref a16, .ref a17, .int 0, .int 0, .int 0, .ref a18, .ref a19, .int 0, .int 0, .ref a20, .ref a21, .ref a22, .int 0, .int 0, .int 0, .int 0, .ref a23, .ref a24, .ref a25, .int 0])), (a1, .inl (E.2.2 1, 1600, .inl g31))] 0 0
  refine mp_run hF mp_tabX10_ok [mp_i (.aload_n 0), mp_i .dup, mp_h (.getfield 109) [6, 0], mp_c (.iconst 1) 1, mp_i .iadd, mp_h (.putfield 109) [6, 0]] (by decide +kernel) ?_
  refine And.intro rfl ?_
  refine And.intro rfl (And.intro rfl ?_)
  intro z33 h34
  obtain rfl : z33 = 7 := h34.trans (by decide)
  refine And.intro rfl (And.intro rfl (And.intro rfl (And.intro rfl (And.intro (Nat.le_of_ble_eq_true rfl) ?_))))
  show mp_W E X 3 30 [(2, .int 8), (0, .ref a0), (1, .int x0)] [] [(a0, .inr (10, [.int 0, .ref a2, .ref a3, .ref a4, .ref a5, .ref a1, .int 7, .int 0, .int 0, .int 0, .int 0, .long 0, .int 0, .int 0, .int 0, .int (-1), .ref a6, .ref a7, .ref a8, .ref a9, .ref a10, .ref a11, .ref a12, .ref a13, .int 0, .ref a14, .ref a15, .ref a16, .ref a17, .int 0, .int 0, .int 0, .ref a18, .ref a19, .int 0, .int 0, .ref a20, .ref a21, .ref a22, .int 0, .int 0, .int 0, .int 0, .ref a23, .ref a24, .ref a25, .int 0])), (a1, .inl (E.2.2 1, 1600, .inl g31))] 0 0
  refine mp_run hF mp_tabX10_ok [mp_c (.iinc 2 (-8)) (-8), mp_h (.goto (-30)) [3], mp_i (.iload_n 2), mp_h (.ifCond .lt 32) [36]] (by decide +kernel) ?_
  intro z35 h36
  obtain rfl : z35 = 0 := h36.trans (by decide)
  refine And.intro (fun c37 => absurd c37 (by decide)) (fun _ => ?_)
  show mp_W E X 3 7 [(2, .int 0), (0, .ref a0), (1, .int x0)] [] [(a0, .inr (10, [.int 0, .ref a2, .ref a3, .ref a4, .ref a5, .ref a1, .int 7, .int 0, .int 0, .int 0, .int 0, .long 0, .int 0, .int 0, .int 0, .int (-1), .ref a6, .ref a7, .ref a8, .ref a9, .ref a10, .ref a11, .ref a12, .ref a13, .int 0, .ref a14, .ref a15, .ref a16, .ref a17, .int 0, .int 0, .int 0, .ref a18, .ref a19, .int 0, .int 0, .ref a20, .ref a21, .ref a22, .int 0, .int 0, .int 0, .int 0, .ref a23, .ref a24, .ref a25, .int 0])), (a1, .inl (E.2.2 1, 1600, .inl g31))] 0 0
  refine mp_run hF mp_tabX10_ok [mp_i (.aload_n 0), mp_h (.getfield 23) [5, 0], mp_i (.aload_n 0), mp_h (.getfield 109) [6, 0], mp_i (.iload_n 1), mp_i (.iload_n 2), mp_i .ishr, mp_i .i2b, mp_h .bastore [1]] (by decide +kernel) ?_
  refine And.intro rfl (And.intro rfl ?_)
  refine And.intro rfl (And.intro rfl ?_)
  intro z38 h39
  intro z41 h42
  refine And.intro rfl (And.intro rfl (And.intro (vp_in_iff.mpr (by decide)) ?_))
  intro g43 h44
  show mp_W E X 3 20 [(2, .int 0), (0, .ref a0), (1, .int x0)] [] [(a0, .inr (10, [.int 0, .ref a2, .ref a3, .ref a4, .ref a5, .ref a1, .int 7, .int 0, .int 0, .int 0, .int 0, .long 0, .int 0, .int 0, .int 0, .int (-1), .ref a6, .ref a7, .ref a8, .ref a9, .ref a10, .ref a11, .ref a12, .ref a13, .int 0, .ref a14, .ref a15, .ref a16, .ref a17, .int 0, .int 0, .int 0, .ref a18, .ref a19, .int 0, .int 0, .ref a20, .ref a21, .ref a22, .int 0, .int 0, .int 0, .int 0, .ref a23, .ref a24, .ref a25, .int 0])), (a1, .inl (E.2.2 1, 1600, .inl g43))] 0 0
  refine mp_run hF mp_tabX10_ok [mp_i (.aload_n 0), mp_i .dup, mp_h (.getfield 109) [6, 0], mp_c (.iconst 1) 1, mp_i .iadd, mp_h (.putfield 109) [6, 0]] (by decide +kernel) ?_
  refine And.intro rfl ?_
  refine And.intro rfl (And.intro rfl ?_)
  intro z45 h46
  obtain rfl : z45 = 8 := h46.trans (by decide)
  refine And.intro rfl (And.intro rfl (And.intro rfl (And.intro rfl (And.intro (Nat.le_of_ble_eq_true rfl) ?_))))
  show mp_W E X 3 30 [(2, .int 0), (0, .ref a0), (1, .int x0)] [] [(a0, .inr (10, [.int 0, .ref a2, .ref a3, .ref a4, .ref a5, .ref a1, .int 8, .int 0, .int 0, .int 0, .int 0, .long 0, .int 0, .int 0, .int 0, .int (-1), .ref a6, .ref a7, .ref a8, .ref a9, .ref a10, .ref a11, .ref a12, .ref a13, .int 0, .ref a14, .ref a15, .ref a16, .ref a17, .int 0, .int 0, .int 0, .ref a18, .ref a19, .int 0, .int 0, .ref a20, .ref a21, .ref a22, .int 0, .int 0, .int 0, .int 0, .ref a23, .ref a24, .ref a25, .int 0])), (a1, .inl (E.2.2 1, 1600, .inl g43))] 0 0
  refine mp_run hF mp_tabX10_ok [mp_c (.iinc 2 (-8)) (-8), mp_h (.goto (-30)) [3], mp_i (.iload_n 2), mp_h (.ifCond .lt 32) [36]] (by decide +kernel) ?_
  intro z47 h48
  obtain rfl : z47 = (-8) := h48.trans (by decide)
  refine And.intro (fun _ => ?_) (fun c49 => absurd c49 (by decide))
  show mp_W E X 3 36 [(2, .int (-8)), (0, .ref a0), (1, .int x0)] [] [(a0, .inr (10, [.int 0, .ref a2, .ref a3, .ref a4, .ref a5, .ref a1, .int 8, .int 0, .int 0, .int 0, .int 0, .long 0, .int 0, .int 0, .int 0, .int (-1), .ref a6, .ref a7, .ref a8, .ref a9, .ref a10, .ref a11, .ref a12, .ref a13, .int 0, .ref a14, .ref a15, .ref a16, .ref a17, .int 0, .int 0, .int 0, .ref a18, .ref a19, .int 0, .int 0, .ref a20, .ref a21, .ref a22, .int 0, .int 0, .int 0, .int 0, .ref a23, .ref a24, .ref a25, .int 0])), (a1, .inl (E.2.2 1, 1600, .inl g43))] 0 0
  exact mp_vret hF hQ rfl (Nat.le_of_ble_eq_true rfl) (Nat.le_of_ble_eq_true rfl) [0, 1] (w' := [(a0, .inr (10, [.int 0, .ref a2, .ref a3, .ref a4, .ref a5, .ref a1, .int 8, .int 0, .int 0, .int 0, .int 0, .long 0, .int 0, .int 0, .int 0, .int (-1), .ref a6, .ref a7, .ref a8, .ref a9, .ref a10, .ref a11, .ref a12, .ref a13, .int 0, .ref a14, .ref a15, .ref a16, .ref a17, .int 0, .int 0, .int 0, .ref a18, .ref a19, .int 0, .int 0, .ref a20, .ref a21, .ref a22, .int 0, .int 0, .int 0, .int 0, .ref a23, .ref a24, .ref a25, .int 0])), (a1, .inl (E.2.2 1, 1600, .inl g43))]) rfl rfl ⟨g43, rfl, rfl⟩ (by decide +kernel)
set_option maxHeartbeats 4000000 in
set_option maxRecDepth 100000 in
theorem aX10_four_8 (E : mp_E) (a0 a1 a2 a3 a4 a5 a6 a7 a8 a9 a10 a11 a12 a13 a14 a15 a16 a17 a18 a19 a20 a21 a22 a23 a24 a25 : Nat) (f0 : Nat → Int32) (x0 : Int32) : mp_Ct E yX10_four cX10_four 3 none 0 0 0 0 [.ref a0, .int x0] [(a0, .inr (10, [.int 0, .ref a2, .ref a3, .ref a4, .ref a5, .ref a1, .int 8, .int 0, .int 0, .int 0, .int 0, .long 0, .int 0, .int 0, .int 0, .int (-1), .ref a6, .ref a7, .ref a8, .ref a9, .ref a10, .ref a11, .ref a12, .ref a13, .int 0, .ref a14, .ref a15, .ref a16, .ref a17, .int 0, .int 0, .int 0, .ref a18, .ref a19, .int 0, .int 0, .ref a20, .ref a21, .ref a22, .int 0, .int 0, .int 0, .int 0, .ref a23, .ref a24, .ref a25, .int 0])), (a1, .inl (E.2.2 1, 1600, .inl f0))] (fun v w' => ∃ h0 : Nat → Int32, v = none ∧ w' = [(a0, .inr (10, [.int 0, .ref a2, .ref a3, .ref a4, .ref a5, .ref a1, .int 12, .int 0, .int 0, .int 0, .int 0, .long 0, .int 0, .int 0, .int 0, .int (-1), .ref a6, .ref a7, .ref a8, .ref a9, .ref a10, .ref a11, .ref a12, .ref a13, .int 0, .ref a14, .ref a15, .ref a16, .ref a17, .int 0, .int 0, .int 0, .ref a18, .ref a19, .int 0, .int 0, .ref a20, .ref a21, .ref a22, .int 0, .int 0, .int 0, .int 0, .ref a23, .ref a24, .ref a25, .int 0])), (a1, .inl (E.2.2 1, 1600, .inl h0))]) := by
  refine mp_met false (by decide) (by decide) (Nat.le_of_ble_eq_true rfl) (fun X hF hQ => ?_)
  have hF : mp_F E X (RX10, cX10_four, 3, (0, 0, 0, 0), none, false) := hF
  show mp_W E X 3 0 [(0, .ref a0), (1, .int x0)] [] [(a0, .inr (10, [.int 0, .ref a2, .ref a3, .ref a4, .ref a5, .ref a1, .int 8, .int 0, .int 0, .int 0, .int 0, .long 0, .int 0, .int 0, .int 0, .int (-1), .ref a6, .ref a7, .ref a8, .ref a9, .ref a10, .ref a11, .ref a12, .ref a13, .int 0, .ref a14, .ref a15, .ref a16, .ref a17, .int 0, .int 0, .int 0, .ref a18, .ref a19, .int 0, .int 0, .ref a20, .ref a21, .ref a22, .int 0, .int 0, .int 0, .int 0, .ref a23, .ref a24, .ref a25, .int 0])), (a1, .inl (E.2.2 1, 1600, .inl f0))] 0 0
  refine mp_run hF mp_tabX10_ok [mp_c (.bipush 24) 24, mp_i (.istore_n 2), mp_i (.iload_n 2), mp_h (.ifCond .lt 32) [36]] (by decide +kernel) ?_
  refine And.intro (fun c1 => absurd c1 (by decide)) (fun _ => ?_)
  show mp_W E X 3 7 [(2, .int 24), (0, .ref a0), (1, .int x0)] [] [(a0, .inr (10, [.int 0, .ref a2, .ref a3, .ref a4, .ref a5, .ref a1, .int 8, .int 0, .int 0, .int 0, .int 0, .long 0, .int 0, .int 0, .int 0, .int (-1), .ref a6, .ref a7, .ref a8, .ref a9, .ref a10, .ref a11, .ref a12, .ref a13, .int 0, .ref a14, .ref a15, .ref a16, .ref a17, .int 0, .int 0, .int 0, .ref a18, .ref a19, .int 0, .int 0, .ref a20, .ref a21, .ref a22, .int 0, .int 0, .int 0, .int 0, .ref a23, .ref a24, .ref a25, .int 0])), (a1, .inl (E.2.2 1, 1600, .inl f0))] 0 0
  refine mp_run hF mp_tabX10_ok [mp_i (.aload_n 0), mp_h (.getfield 23) [5, 0], mp_i (.aload_n 0), mp_h (.getfield 109) [6, 0], mp_i (.iload_n 1), mp_i (.iload_n 2), mp_i .ishr, mp_i .i2b, mp_h .bastore [1]] (by decide +kernel) ?_
  refine And.intro rfl (And.intro rfl ?_)
  refine And.intro rfl (And.intro rfl ?_)
  intro z2 h3
  intro z5 h6
  refine And.intro rfl (And.intro rfl (And.intro (vp_in_iff.mpr (by decide)) ?_))
  intro g7 h8
  show mp_W E X 3 20 [(2, .int 24), (0, .ref a0), (1, .int x0)] [] [(a0, .inr (10, [.int 0, .ref a2, .ref a3, .ref a4, .ref a5, .ref a1, .int 8, .int 0, .int 0, .int 0, .int 0, .long 0, .int 0, .int 0, .int 0, .int (-1), .ref a6, .ref a7, .ref a8, .ref a9, .ref a10, .ref a11, .ref a12, .ref a13, .int 0, .ref a14, .ref a15, .ref a16, .ref a17, .int 0, .int 0, .int 0, .ref a18, .ref a19, .int 0, .int 0, .ref a20, .ref a21, .ref a22, .int 0, .int 0, .int 0, .int 0, .ref a23, .ref a24, .ref a25, .int 0])), (a1, .inl (E.2.2 1, 1600, .inl g7))] 0 0
  refine mp_run hF mp_tabX10_ok [mp_i (.aload_n 0), mp_i .dup, mp_h (.getfield 109) [6, 0], mp_c (.iconst 1) 1, mp_i .iadd, mp_h (.putfield 109) [6, 0]] (by decide +kernel) ?_
  refine And.intro rfl ?_
  refine And.intro rfl (And.intro rfl ?_)
  intro z9 h10
  obtain rfl : z9 = 9 := h10.trans (by decide)
  refine And.intro rfl (And.intro rfl (And.intro rfl (And.intro rfl (And.intro (Nat.le_of_ble_eq_true rfl) ?_))))
  show mp_W E X 3 30 [(2, .int 24), (0, .ref a0), (1, .int x0)] [] [(a0, .inr (10, [.int 0, .ref a2, .ref a3, .ref a4, .ref a5, .ref a1, .int 9, .int 0, .int 0, .int 0, .int 0, .long 0, .int 0, .int 0, .int 0, .int (-1), .ref a6, .ref a7, .ref a8, .ref a9, .ref a10, .ref a11, .ref a12, .ref a13, .int 0, .ref a14, .ref a15, .ref a16, .ref a17, .int 0, .int 0, .int 0, .ref a18, .ref a19, .int 0, .int 0, .ref a20, .ref a21, .ref a22, .int 0, .int 0, .int 0, .int 0, .ref a23, .ref a24, .ref a25, .int 0])), (a1, .inl (E.2.2 1, 1600, .inl g7))] 0 0
  refine mp_run hF mp_tabX10_ok [mp_c (.iinc 2 (-8)) (-8), mp_h (.goto (-30)) [3], mp_i (.iload_n 2), mp_h (.ifCond .lt 32) [36]] (by decide +kernel) ?_
  intro z11 h12
  obtain rfl : z11 = 16 := h12.trans (by decide)
  refine And.intro (fun c13 => absurd c13 (by decide)) (fun _ => ?_)
  show mp_W E X 3 7 [(2, .int 16), (0, .ref a0), (1, .int x0)] [] [(a0, .inr (10, [.int 0, .ref a2, .ref a3, .ref a4, .ref a5, .ref a1, .int 9, .int 0, .int 0, .int 0, .int 0, .long 0, .int 0, .int 0, .int 0, .int (-1), .ref a6, .ref a7, .ref a8, .ref a9, .ref a10, .ref a11, .ref a12, .ref a13, .int 0, .ref a14, .ref a15, .ref a16, .ref a17, .int 0, .int 0, .int 0, .ref a18, .ref a19, .int 0, .int 0, .ref a20, .ref a21, .ref a22, .int 0, .int 0, .int 0, .int 0, .ref a23, .ref a24, .ref a25, .int 0])), (a1, .inl (E.2.2 1, 1600, .inl g7))] 0 0
  refine mp_run hF mp_tabX10_ok [mp_i (.aload_n 0), mp_h (.getfield 23) [5, 0], mp_i (.aload_n 0), mp_h (.getfield 109) [6, 0], mp_i (.iload_n 1), mp_i (.iload_n 2), mp_i .ishr, mp_i .i2b, mp_h .bastore [1]] (by decide +kernel) ?_
  refine And.intro rfl (And.intro rfl ?_)
  refine And.intro rfl (And.intro rfl ?_)
  intro z14 h15
  intro z17 h18
  refine And.intro rfl (And.intro rfl (And.intro (vp_in_iff.mpr (by decide)) ?_))
  intro g19 h20
  show mp_W E X 3 20 [(2, .int 16), (0, .ref a0), (1, .int x0)] [] [(a0, .inr (10, [.int 0, .ref a2, .ref a3, .ref a4, .ref a5, .ref a1, .int 9, .int 0, .int 0, .int 0, .int 0, .long 0, .int 0, .int 0, .int 0, .int (-1), .ref a6, .ref a7, .ref a8, .ref a9, .ref a10, .ref a11, .ref a12, .ref a13, .int 0, .ref a14, .ref a15, .ref a16, .ref a17, .int 0, .int 0, .int 0, .ref a18, .ref a19, .int 0, .int 0, .ref a20, .ref a21, .ref a22, .int 0, .int 0, .int 0, .int 0, .ref a23, .ref a24, .ref a25, .int 0])), (a1, .inl (E.2.2 1, 1600, .inl g19))] 0 0
  refine mp_run hF mp_tabX10_ok [mp_i (.aload_n 0), mp_i .dup, mp_h (.getfield 109) [6, 0], mp_c (.iconst 1) 1, mp_i .iadd, mp_h (.putfield 109) [6, 0]] (by decide +kernel) ?_
  refine And.intro rfl ?_
  refine And.intro rfl (And.intro rfl ?_)
  intro z21 h22
  obtain rfl : z21 = 10 := h22.trans (by decide)
  refine And.intro rfl (And.intro rfl (And.intro rfl (And.intro rfl (And.intro (Nat.le_of_ble_eq_true rfl) ?_))))
  show mp_W E X 3 30 [(2, .int 16), (0, .ref a0), (1, .int x0)] [] [(a0, .inr (10, [.int 0, .ref a2, .ref a3, .ref a4, .ref a5, .ref a1, .int 10, .int 0, .int 0, .int 0, .int 0, .long 0, .int 0, .int 0, .int 0, .int (-1), .ref a6, .ref a7, .ref a8, .ref a9, .ref a10, .ref a11, .ref a12, .ref a13, .int 0, .ref a14, .ref a15, .ref a16, .ref a17, .int 0, .int 0, .int 0, .ref a18, .ref a19, .int 0, .int 0, .ref a20, .ref a21, .ref a22, .int 0, .int 0, .int 0, .int 0, .ref a23, .ref a24, .ref a25, .int 0])), (a1, .inl (E.2.2 1, 1600, .inl g19))] 0 0
  refine mp_run hF mp_tabX10_ok [mp_c (.iinc 2 (-8)) (-8), mp_h (.goto (-30)) [3], mp_i (.iload_n 2), mp_h (.ifCond .lt 32) [36]] (by decide +kernel) ?_
  intro z23 h24
  obtain rfl : z23 = 8 := h24.trans (by decide)
  refine And.intro (fun c25 => absurd c25 (by decide)) (fun _ => ?_)
  show mp_W E X 3 7 [(2, .int 8), (0, .ref a0), (1, .int x0)] [] [(a0, .inr (10, [.int 0, .ref a2, .ref a3, .ref a4, .ref a5, .ref a1, .int 10, .int 0, .int 0, .int 0, .int 0, .long 0, .int 0, .int 0, .int 0, .int (-1), .ref a6, .ref a7, .ref a8, .ref a9, .ref a10, .ref a11, .ref a12, .ref a13, .int 0, .ref a14, .ref a15, .ref a16, .ref a17, .int 0, .int 0, .int 0, .ref a18, .ref a19, .int 0, .int 0, .ref a20, .ref a21, .ref a22, .int 0, .int 0, .int 0, .int 0, .ref a23, .ref a24, .ref a25, .int 0])), (a1, .inl (E.2.2 1, 1600, .inl g19))] 0 0
  refine mp_run hF mp_tabX10_ok [mp_i (.aload_n 0), mp_h (.getfield 23) [5, 0], mp_i (.aload_n 0), mp_h (.getfield 109) [6, 0], mp_i (.iload_n 1), mp_i (.iload_n 2), mp_i .ishr, mp_i .i2b, mp_h .bastore [1]] (by decide +kernel) ?_
  refine And.intro rfl (And.intro rfl ?_)
  refine And.intro rfl (And.intro rfl ?_)
  intro z26 h27
  intro z29 h30
  refine And.intro rfl (And.intro rfl (And.intro (vp_in_iff.mpr (by decide)) ?_))
  intro g31 h32
  show mp_W E X 3 20 [(2, .int 8), (0, .ref a0), (1, .int x0)] [] [(a0, .inr (10, [.int 0, .ref a2, .ref a3, .ref a4, .ref a5, .ref a1, .int 10, .int 0, .int 0, .int 0, .int 0, .long 0, .int 0, .int 0, .int 0, .int (-1), .ref a6, .ref a7, .ref a8, .ref a9, .ref a10, .ref a11, .ref a12, .ref a13, .int 0, .ref a14, .ref a15, .ref a16, .ref a17, .int 0, .int 0, .int 0, .ref a18, .ref a19, .int 0, .int 0, .ref a20, .ref a21, .ref a22, .int 0, .int 0, .int 0, .int 0, .ref a23, .ref a24, .ref a25, .int 0])), (a1, .inl (E.2.2 1, 1600, .inl g31))] 0 0
  refine mp_run hF mp_tabX10_ok [mp_i (.aload_n 0), mp_i .dup, mp_h (.getfield 109) [6, 0], mp_c (.iconst 1) 1, mp_i .iadd, mp_h (.putfield 109) [6, 0]] (by decide +kernel) ?_
  refine And.intro rfl ?_
  refine And.intro rfl (And.intro rfl ?_)
  intro z33 h34
  obtain rfl : z33 = 11 := h34.trans (by decide)
  refine And.intro rfl (And.intro rfl (And.intro rfl (And.intro rfl (And.intro (Nat.le_of_ble_eq_true rfl) ?_))))
  show mp_W E X 3 30 [(2, .int 8), (0, .ref a0), (1, .int x0)] [] [(a0, .inr (10, [.int 0, .ref a2, .ref a3, .ref a4, .ref a5, .ref a1, .int 11, .int 0, .int 0, .int 0, .int 0, .long 0, .int 0, .int 0, .int 0, .int (-1), .ref a6, .ref a7, .ref a8, .ref a9, .ref a10, .ref a11, .ref a12, .ref a13, .int 0, .ref a14, .ref a15, .ref a16, .ref a17, .int 0, .int 0, .int 0, .ref a18, .ref a19, .int 0, .int 0, .ref a20, .ref a21, .ref a22, .int 0, .int 0, .int 0, .int 0, .ref a23, .ref a24, .ref a25, .int 0])), (a1, .inl (E.2.2 1, 1600, .inl g31))] 0 0
  refine mp_run hF mp_tabX10_ok [mp_c (.iinc 2 (-8)) (-8), mp_h (.goto (-30)) [3], mp_i (.iload_n 2), mp_h (.ifCond .lt 32) [36]] (by decide +kernel) ?_
  intro z35 h36
  obtain rfl : z35 = 0 := h36.trans (by decide)
  refine And.intro (fun c37 => absurd c37 (by decide)) (fun _ => ?_)
  show mp_W E X 3 7 [(2, .int 0), (0, .ref a0), (1, .int x0)] [] [(a0, .inr (10, [.int 0, .ref a2, .ref a3, .ref a4, .ref a5, .ref a1, .int 11, .int 0, .int 0, .int 0, .int 0, .long 0, .int 0, .int 0, .int 0, .int (-1), .ref a6, .ref a7, .ref a8, .ref a9, .ref a10, .ref a11, .ref a12, .ref a13, .int 0, .ref a14, .ref a15, .ref a16, .ref a17, .int 0, .int 0, .int 0, .ref a18, .ref a19, .int 0, .int 0, .ref a20, .ref a21, .ref a22, .int 0, .int 0, .int 0, .int 0, .ref a23, .ref a24, .ref a25, .int 0])), (a1, .inl (E.2.2 1, 1600, .inl g31))] 0 0
  refine mp_run hF mp_tabX10_ok [mp_i (.aload_n 0), mp_h (.getfield 23) [5, 0], mp_i (.aload_n 0), mp_h (.getfield 109) [6, 0], mp_i (.iload_n 1), mp_i (.iload_n 2), mp_i .ishr, mp_i .i2b, mp_h .bastore [1]] (by decide +kernel) ?_
  refine And.intro rfl (And.intro rfl ?_)
  refine And.intro rfl (And.intro rfl ?_)
  intro z38 h39
  intro z41 h42
  refine And.intro rfl (And.intro rfl (And.intro (vp_in_iff.mpr (by decide)) ?_))
  intro g43 h44
  show mp_W E X 3 20 [(2, .int 0), (0, .ref a0), (1, .int x0)] [] [(a0, .inr (10, [.int 0, .ref a2, .ref a3, .ref a4, .ref a5, .ref a1, .int 11, .int 0, .int 0, .int 0, .int 0, .long 0, .int 0, .int 0, .int 0, .int (-1), .ref a6, .ref a7, .ref a8, .ref a9, .ref a10, .ref a11, .ref a12, .ref a13, .int 0, .ref a14, .ref a15, .ref a16, .ref a17, .int 0, .int 0, .int 0, .ref a18, .ref a19, .int 0, .int 0, .ref a20, .ref a21, .ref a22, .int 0, .int 0, .int 0, .int 0, .ref a23, .ref a24, .ref a25, .int 0])), (a1, .inl (E.2.2 1, 1600, .inl g43))] 0 0
  refine mp_run hF mp_tabX10_ok [mp_i (.aload_n 0), mp_i .dup, mp_h (.getfield 109) [6, 0], mp_c (.iconst 1) 1, mp_i .iadd, mp_h (.putfield 109) [6, 0]] (by decide +kernel) ?_
  refine And.intro rfl ?_
  refine And.intro rfl (And.intro rfl ?_)
  intro z45 h46
  obtain rfl : z45 = 12 := h46.trans (by decide)
  refine And.intro rfl (And.intro rfl (And.intro rfl (And.intro rfl (And.intro (Nat.le_of_ble_eq_true rfl) ?_))))
  show mp_W E X 3 30 [(2, .int 0), (0, .ref a0), (1, .int x0)] [] [(a0, .inr (10, [.int 0, .ref a2, .ref a3, .ref a4, .ref a5, .ref a1, .int 12, .int 0, .int 0, .int 0, .int 0, .long 0, .int 0, .int 0, .int 0, .int (-1), .ref a6, .ref a7, .ref a8, .ref a9, .ref a10, .ref a11, .ref a12, .ref a13, .int 0, .ref a14, .ref a15, .ref a16, .ref a17, .int 0, .int 0, .int 0, .ref a18, .ref a19, .int 0, .int 0, .ref a20, .ref a21, .ref a22, .int 0, .int 0, .int 0, .int 0, .ref a23, .ref a24, .ref a25, .int 0])), (a1, .inl (E.2.2 1, 1600, .inl g43))] 0 0
  refine mp_run hF mp_tabX10_ok [mp_c (.iinc 2 (-8)) (-8), mp_h (.goto (-30)) [3], mp_i (.iload_n 2), mp_h (.ifCond .lt 32) [36]] (by decide +kernel) ?_
  intro z47 h48
  obtain rfl : z47 = (-8) := h48.trans (by decide)
  refine And.intro (fun _ => ?_) (fun c49 => absurd c49 (by decide))
  show mp_W E X 3 36 [(2, .int (-8)), (0, .ref a0), (1, .int x0)] [] [(a0, .inr (10, [.int 0, .ref a2, .ref a3, .ref a4, .ref a5, .ref a1, .int 12, .int 0, .int 0, .int 0, .int 0, .long 0, .int 0, .int 0, .int 0, .int (-1), .ref a6, .ref a7, .ref a8, .ref a9, .ref a10, .ref a11, .ref a12, .ref a13, .int 0, .ref a14, .ref a15, .ref a16, .ref a17, .int 0, .int 0, .int 0, .ref a18, .ref a19, .int 0, .int 0, .ref a20, .ref a21, .ref a22, .int 0, .int 0, .int 0, .int 0, .ref a23, .ref a24, .ref a25, .int 0])), (a1, .inl (E.2.2 1, 1600, .inl g43))] 0 0
  exact mp_vret hF hQ rfl (Nat.le_of_ble_eq_true rfl) (Nat.le_of_ble_eq_true rfl) [0, 1] (w' := [(a0, .inr (10, [.int 0, .ref a2, .ref a3, .ref a4, .ref a5, .ref a1, .int 12, .int 0, .int 0, .int 0, .int 0, .long 0, .int 0, .int 0, .int 0, .int (-1), .ref a6, .ref a7, .ref a8, .ref a9, .ref a10, .ref a11, .ref a12, .ref a13, .int 0, .ref a14, .ref a15, .ref a16, .ref a17, .int 0, .int 0, .int 0, .ref a18, .ref a19, .int 0, .int 0, .ref a20, .ref a21, .ref a22, .int 0, .int 0, .int 0, .int 0, .ref a23, .ref a24, .ref a25, .int 0])), (a1, .inl (E.2.2 1, 1600, .inl g43))]) rfl rfl ⟨g43, rfl, rfl⟩ (by decide +kernel)
set_option maxHeartbeats 4000000 in
set_option maxRecDepth 100000 in
theorem aX10_four_9 (E : mp_E) (a0 a1 a2 a3 a4 a5 a6 a7 a8 a9 a10 a11 a12 a13 a14 a15 a16 a17 a18 a19 a20 a21 a22 a23 a24 a25 : Nat) (f0 : Nat → Int32) (x0 : Int32) : mp_Ct E yX10_four cX10_four 3 none 0 0 0 0 [.ref a0, .int x0] [(a0, .inr (10, [.int 0, .ref a2, .ref a3, .ref a4, .ref a5, .ref a1, .int 12, .int 0, .int 0, .int 0, .int 0, .long 0, .int 0, .int 0, .int 0, .int (-1), .ref a6, .ref a7, .ref a8, .ref a9, .ref a10, .ref a11, .ref a12, .ref a13, .int 0, .ref a14, .ref a15, .ref a16, .ref a17, .int 0, .int 0, .int 0, .ref a18, .ref a19, .int 0, .int 0, .ref a20, .ref a21, .ref a22, .int 0, .int 0, .int 0, .int 0, .ref a23, .ref a24, .ref a25, .int 0])), (a1, .inl (E.2.2 1, 1600, .inl f0))] (fun v w' => ∃ h0 : Nat → Int32, v = none ∧ w' = [(a0, .inr (10, [.int 0, .ref a2, .ref a3, .ref a4, .ref a5, .ref a1, .int 16, .int 0, .int 0, .int 0, .int 0, .long 0, .int 0, .int 0, .int 0, .int (-1), .ref a6, .ref a7, .ref a8, .ref a9, .ref a10, .ref a11, .ref a12, .ref a13, .int 0, .ref a14, .ref a15, .ref a16, .ref a17, .int 0, .int 0, .int 0, .ref a18, .ref a19, .int 0, .int 0, .ref a20, .ref a21, .ref a22, .int 0, .int 0, .int 0, .int 0, .ref a23, .ref a24, .ref a25, .int 0])), (a1, .inl (E.2.2 1, 1600, .inl h0))]) := by
  refine mp_met false (by decide) (by decide) (Nat.le_of_ble_eq_true rfl) (fun X hF hQ => ?_)
  have hF : mp_F E X (RX10, cX10_four, 3, (0, 0, 0, 0), none, false) := hF
  show mp_W E X 3 0 [(0, .ref a0), (1, .int x0)] [] [(a0, .inr (10, [.int 0, .ref a2, .ref a3, .ref a4, .ref a5, .ref a1, .int 12, .int 0, .int 0, .int 0, .int 0, .long 0, .int 0, .int 0, .int 0, .int (-1), .ref a6, .ref a7, .ref a8, .ref a9, .ref a10, .ref a11, .ref a12, .ref a13, .int 0, .ref a14, .ref a15, .ref a16, .ref a17, .int 0, .int 0, .int 0, .ref a18, .ref a19, .int 0, .int 0, .ref a20, .ref a21, .ref a22, .int 0, .int 0, .int 0, .int 0, .ref a23, .ref a24, .ref a25, .int 0])), (a1, .inl (E.2.2 1, 1600, .inl f0))] 0 0
  refine mp_run hF mp_tabX10_ok [mp_c (.bipush 24) 24, mp_i (.istore_n 2), mp_i (.iload_n 2), mp_h (.ifCond .lt 32) [36]] (by decide +kernel) ?_
  refine And.intro (fun c1 => absurd c1 (by decide)) (fun _ => ?_)
  show mp_W E X 3 7 [(2, .int 24), (0, .ref a0), (1, .int x0)] [] [(a0, .inr (10, [.int 0, .ref a2, .ref a3, .ref a4, .ref a5, .ref a1, .int 12, .int 0, .int 0, .int 0, .int 0, .long 0, .int 0, .int 0, .int 0, .int (-1), .ref a6, .ref a7, .ref a8, .ref a9, .ref a10, .ref a11, .ref a12, .ref a13, .int 0, .ref a14, .ref a15, .ref a16, .ref a17, .int 0, .int 0, .int 0, .ref a18, .ref a19, .int 0, .int 0, .ref a20, .ref a21, .ref a22, .int 0, .int 0, .int 0, .int 0, .ref a23, .ref a24, .ref a25, .int 0])), (a1, .inl (E.2.2 1, 1600, .inl f0))] 0 0
  refine mp_run hF mp_tabX10_ok [mp_i (.aload_n 0), mp_h (.getfield 23) [5, 0], mp_i (.aload_n 0), mp_h (.getfield 109) [6, 0], mp_i (.iload_n 1), mp_i (.iload_n 2), mp_i .ishr, mp_i .i2b, mp_h .bastore [1]] (by decide +kernel) ?_
  refine And.intro rfl (And.intro rfl ?_)
  refine And.intro rfl (And.intro rfl ?_)
  intro z2 h3
  intro z5 h6
  refine And.intro rfl (And.intro rfl (And.intro (vp_in_iff.mpr (by decide)) ?_))
  intro g7 h8
  show mp_W E X 3 20 [(2, .int 24), (0, .ref a0), (1, .int x0)] [] [(a0, .inr (10, [.int 0, .ref a2, .ref a3, .ref a4, .ref a5, .ref a1, .int 12, .int 0, .int 0, .int 0, .int 0, .long 0, .int 0, .int 0, .int 0, .int (-1), .ref a6, .ref a7, .ref a8, .ref a9, .ref a10, .ref a11, .ref a12, .ref a13, .int 0, .ref a14, .ref a15, .ref a16, .ref a17, .int 0, .int 0, .int 0, .ref a18, .ref a19, .int 0, .int 0, .ref a20, .ref a21, .ref a22, .int 0, .int 0, .int 0, .int 0, .ref a23, .ref a24, .ref a25, .int 0])), (a1, .inl (E.2.2 1, 1600, .inl g7))] 0 0
  refine mp_run hF mp_tabX10_ok [mp_i (.aload_n 0), mp_i .dup, mp_h (.getfield 109) [6, 0], mp_c (.iconst 1) 1, mp_i .iadd, mp_h (.putfield 109) [6, 0]] (by decide +kernel) ?_
  refine And.intro rfl ?_
  refine And.intro rfl (And.intro rfl ?_)
  intro z9 h10
  obtain rfl : z9 = 13 := h10.trans (by decide)
  refine And.intro rfl (And.intro rfl (And.intro rfl (And.intro rfl (And.intro (Nat.le_of_ble_eq_true rfl) ?_))))
  show mp_W E X 3 30 [(2, .int 24), (0, .ref a0), (1, .int x0)] [] [(a0, .inr (10, [.int 0, .ref a2, .ref a3, .ref a4, .ref a5, .ref a1, .int 13, .int 0, .int 0, .int 0, .int 0, .long 0, .int 0, .int 0, .int 0, .int (-1), .ref a6, .ref a7, .ref a8, .ref a9, .ref a10, .ref a11, .ref a12, .ref a13, .int 0, .ref a14, .ref a15, .ref a16, .ref a17, .int 0, .int 0, .int 0, .ref a18, .ref a19, .int 0, .int 0, .ref a20, .ref a21, .ref a22, .int 0, .int 0, .int 0, .int 0, .ref a23, .ref a24, .ref a25, .int 0])), (a1, .inl (E.2.2 1, 1600, .inl g7))] 0 0
  refine mp_run hF mp_tabX10_ok [mp_c (.iinc 2 (-8)) (-8), mp_h (.goto (-30)) [3], mp_i (.iload_n 2), mp_h (.ifCond .lt 32) [36]] (by decide +kernel) ?_
  intro z11 h12
  obtain rfl : z11 = 16 := h12.trans (by decide)
  refine And.intro (fun c13 => absurd c13 (by decide)) (fun _ => ?_)
  show mp_W E X 3 7 [(2, .int 16), (0, .ref a0), (1, .int x0)] [] [(a0, .inr (10, [.int 0, .ref a2, .ref a3, .ref a4, .ref a5, .ref a1, .int 13, .int 0, .int 0, .int 0, .int 0, .long 0, .int 0, .int 0, .int 0, .int (-1), .ref a6, .ref a7, .ref a8, .ref a9, .ref a10, .ref a11, .ref a12, .ref a13, .int 0, .ref a14, .ref a15, .ref a16, .ref a17, .int 0, .int 0, .int 0, .ref a18, .ref a19, .int 0, .int 0, .ref a20, .ref a21, .ref a22, .int 0, .int 0, .int 0, .int 0, .ref a23, .ref a24, .ref a25, .int 0])), (a1, .inl (E.2.2 1, 1600, .inl g7))] 0 0
  refine mp_run hF mp_tabX10_ok [mp_i (.aload_n 0), mp_h (.getfield 23) [5, 0], mp_i (.aload_n 0), mp_h (.getfield 109) [6, 0], mp_i (.iload_n 1), mp_i (.iload_n 2), mp_i .ishr, mp_i .i2b, mp_h .bastore [1]] (by decide +kernel) ?_
  refine And.intro rfl (And.intro rfl ?_)
  refine And.intro rfl (And.intro rfl ?_)
  intro z14 h15
  intro z17 h18
  refine And.intro rfl (And.intro rfl (And.intro (vp_in_iff.mpr (by decide)) ?_))
  intro g19 h20
  show mp_W E X 3 20 [(2, .int 16), (0, .ref a0), (1, .int x0)] [] [(a0, .inr (10, [.int 0, .ref a2, .ref a3, .ref a4, .ref a5, .ref a1, .int 13, .int 0, .int 0, .int 0, .int 0, .long 0, .int 0, .int 0, .int 0, .int (-1), .ref a6, .ref a7, .ref a8, .ref a9, .ref a10, .ref a11, .ref a12, .ref a13, .int 0, .ref a14, .ref a15, .ref a16, .ref a17, .int 0, .int 0, .int 0, .ref a18, .ref a19, .int 0, .int 0, .ref a20, .ref a21, .ref a22, .int 0, .int 0, .int 0, .int 0, .ref a23, .ref a24, .ref a25, .int 0])), (a1, .inl (E.2.2 1, 1600, .inl g19))] 0 0
  refine mp_run hF mp_tabX10_ok [mp_i (.aload_n 0), mp_i .dup, mp_h (.getfield 109) [6, 0], mp_c (.iconst 1) 1, mp_i .iadd, mp_h (.putfield 109) [6, 0]] (by decide +kernel) ?_
  refine And.intro rfl ?_
  refine And.intro rfl (And.intro rfl ?_)
  intro z21 h22
  obtain rfl : z21 = 14 := h22.trans (by decide)
  refine And.intro rfl (And.intro rfl (And.intro rfl (And.intro rfl (And.intro (Nat.le_of_ble_eq_true rfl) ?_))))
  show mp_W E X 3 30 [(2, .int 16), (0, .ref a0), (1, .int x0)] [] [(a0, .inr (10, [.int 0, .ref a2, .ref a3, .ref a4, .ref a5, .ref a1, .int 14, .int 0, .int 0, .int 0, .int 0, .long 0, .int 0, .int 0, .int 0, .int (-1), .ref a6, .ref a7, .ref a8, .ref a9, .ref a10, .ref a11, .ref a12, .ref a13, .int 0, .ref a14, .ref a15, .ref a16, .ref a17, .int 0, .int 0, .int 0, .ref a18, .ref a19, .int 0, .int 0, .ref a20, .ref a21, .ref a22, .int 0, .int 0, .int 0, .int 0, .ref a23, .ref a24, .ref a25, .int 0])), (a1, .inl (E.2.2 1, 1600, .inl g19))] 0 0
  refine mp_run hF mp_tabX10_ok [mp_c (.iinc 2 (-8)) (-8), mp_h (.goto (-30)) [3], mp_i (.iload_n 2), mp_h (.ifCond .lt 32) [36]] (by decide +kernel) ?_
  intro z23 h24
  obtain rfl : z23 = 8 := h24.trans (by decide)
  refine And.intro (fun c25 => absurd c25 (by decide)) (fun _ => ?_)
  show mp_W E X 3 7 [(2, .int 8), (0, .ref a0), (1, .int x0)] [] [(a0, .inr (10, [.int 0, .ref a2, .ref a3, .ref a4, .ref a5, .ref a1, .int 14, .int 0, .int 0, .int 0, .int 0, .long 0, .int 0, .int 0, .int 0, .int (-1), .ref a6, .ref a7, .ref a8, .ref a9, .ref a10, .ref a11, .ref a12, .ref a13, .int 0, .ref a14, .ref a15, .ref a16, .ref a17, .int 0, .int 0, .int 0, .ref a18, .ref a19, .int 0, .int 0, .ref a20, .ref a21, .ref a22, .int 0, .int 0, .int 0, .int 0, .ref a23, .ref a24, .ref a25, .int 0])), (a1, .inl (E.2.2 1, 1600, .inl g19))] 0 0
  refine mp_run hF mp_tabX10_ok [mp_i (.aload_n 0), mp_h (.getfield 23) [5, 0], mp_i (.aload_n 0), mp_h (.getfield 109) [6, 0], mp_i (.iload_n 1), mp_i (.iload_n 2), mp_i .ishr, mp_i .i2b, mp_h .bastore [1]] (by decide +kernel) ?_
  refine And.intro rfl (And.intro rfl ?_)
  refine And.intro rfl (And.intro rfl ?_)
  intro z26 h27
  intro z29 h30
  refine And.intro rfl (And.intro rfl (And.intro (vp_in_iff.mpr (by decide)) ?_))
  intro g31 h32
  show mp_W E X 3 20 [(2, .int 8), (0, .ref a0), (1, .int x0)] [] [(a0, .inr (10, [.int 0, .ref a2, .ref a3, .ref a4, .ref a5, .ref a1, .int 14, .int 0, .int 0, .int 0, .int 0, .long 0, .int 0, .int 0, .int 0, .int (-1), .ref a6, .ref a7, .ref a8, .ref a9, .ref a10, .ref a11, .ref a12, .ref a13, .int 0, .ref a14, .ref a15, .ref a16, .ref a17, .int 0, .int 0, .int 0, .ref a18, .ref a19, .int 0, .int 0, .ref a20, .ref a21, .ref a22, .int 0, .int 0, .int 0, .int 0, .ref a23, .ref a24, .ref a25, .int 0])), (a1, .inl (E.2.2 1, 1600, .inl g31))] 0 0
  refine mp_run hF mp_tabX10_ok [mp_i (.aload_n 0), mp_i .dup, mp_h (.getfield 109) [6, 0], mp_c (.iconst 1) 1, mp_i .iadd, mp_h (.putfield 109) [6, 0]] (by decide +kernel) ?_
  refine And.intro rfl ?_
  refine And.intro rfl (And.intro rfl ?_)
  intro z33 h34
  obtain rfl : z33 = 15 := h34.trans (by decide)
  refine And.intro rfl (And.intro rfl (And.intro rfl (And.intro rfl (And.intro (Nat.le_of_ble_eq_true rfl) ?_))))
  show mp_W E X 3 30 [(2, .int 8), (0, .ref a0), (1, .int x0)] [] [(a0, .inr (10, [.int 0, .ref a2, .ref a3, .ref a4, .ref a5, .ref a1, .int 15, .int 0, .int 0, .int 0, .int 0, .long 0, .int 0, .int 0, .int 0, .int (-1), .ref a6, .ref a7, .ref a8, .ref a9, .ref a10, .ref a11, .ref a12, .ref a13, .int 0, .ref a14, .ref a15, .ref a16, .ref a17, .int 0, .int 0, .int 0, .ref a18, .ref a19, .int 0, .int 0, .ref a20, .ref a21, .ref a22, .int 0, .int 0, .int 0, .int 0, .ref a23, .ref a24, .ref a25, .int 0])), (a1, .inl (E.2.2 1, 1600, .inl g31))] 0 0
  refine mp_run hF mp_tabX10_ok [mp_c (.iinc 2 (-8)) (-8), mp_h (.goto (-30)) [3], mp_i (.iload_n 2), mp_h (.ifCond .lt 32) [36]] (by decide +kernel) ?_
  intro z35 h36
  obtain rfl : z35 = 0 := h36.trans (by decide)
  refine And.intro (fun c37 => absurd c37 (by decide)) (fun _ => ?_)
  show mp_W E X 3 7 [(2, .int 0), (0, .ref a0), (1, .int x0)] [] [(a0, .inr (10, [.int 0, .ref a2, .ref a3, .ref a4, .ref a5, .ref a1, .int 15, .int 0, .int 0, .int 0, .int 0, .long 0, .int 0, .int 0, .int 0, .int (-1), .ref a6, .ref a7, .ref a8, .ref a9, .ref a10, .ref a11, .ref a12, .ref a13, .int 0, .ref a14, .ref a15, .ref a16, .ref a17, .int 0, .int 0, .int 0, .ref a18, .ref a19, .int 0, .int 0, .ref a20, .ref a21, .ref a22, .int 0, .int 0, .int 0, .int 0, .ref a23, .ref a24, .ref a25, .int 0])), (a1, .inl (E.2.2 1, 1600, .inl g31))] 0 0
  refine mp_run hF mp_tabX10_ok [mp_i (.aload_n 0), mp_h (.getfield 23) [5, 0], mp_i (.aload_n 0), mp_h (.getfield 109) [6, 0], mp_i (.iload_n 1), mp_i (.iload_n 2), mp_i .ishr, mp_i .i2b, mp_h .bastore [1]] (by decide +kernel) ?_
  refine And.intro rfl (And.intro rfl ?_)
  refine And.intro rfl (And.intro rfl ?_)
  intro z38 h39
  intro z41 h42
  refine And.intro rfl (And.intro rfl (And.intro (vp_in_iff.mpr (by decide)) ?_))
  intro g43 h44
  show mp_W E X 3 20 [(2, .int 0), (0, .ref a0), (1, .int x0)] [] [(a0, .inr (10, [.int 0, .ref a2, .ref a3, .ref a4, .ref a5, .ref a1, .int 15, .int 0, .int 0, .int 0, .int 0, .long 0, .int 0, .int 0, .int 0, .int (-1), .ref a6, .ref a7, .ref a8, .ref a9, .ref a10, .ref a11, .ref a12, .ref a13, .int 0, .ref a14, .ref a15, .ref a16, .ref a17, .int 0, .int 0, .int 0, .ref a18, .ref a19, .int 0, .int 0, .ref a20, .ref a21, .ref a22, .int 0, .int 0, .int 0, .int 0, .ref a23, .ref a24, .ref a25, .int 0])), (a1, .inl (E.2.2 1, 1600, .inl g43))] 0 0
  refine mp_run hF mp_tabX10_ok [mp_i (.aload_n 0), mp_i .dup, mp_h (.getfield 109) [6, 0], mp_c (.iconst 1) 1, mp_i .iadd, mp_h (.putfield 109) [6, 0]] (by decide +kernel) ?_
  refine And.intro rfl ?_
  refine And.intro rfl (And.intro rfl ?_)
  intro z45 h46
  obtain rfl : z45 = 16 := h46.trans (by decide)
  refine And.intro rfl (And.intro rfl (And.intro rfl (And.intro rfl (And.intro (Nat.le_of_ble_eq_true rfl) ?_))))
  show mp_W E X 3 30 [(2, .int 0), (0, .ref a0), (1, .int x0)] [] [(a0, .inr (10, [.int 0, .ref a2, .ref a3, .ref a4, .ref a5, .ref a1, .int 16, .int 0, .int 0, .int 0, .int 0, .long 0, .int 0, .int 0, .int 0, .int (-1), .ref a6, .ref a7, .ref a8, .ref a9, .ref a10, .ref a11, .ref a12, .ref a13, .int 0, .ref a14, .ref a15, .ref a16, .ref a17, .int 0, .int 0, .int 0, .ref a18, .ref a19, .int 0, .int 0, .ref a20, .ref a21, .ref a22, .int 0, .int 0, .int 0, .int 0, .ref a23, .ref a24, .ref a25, .int 0])), (a1, .inl (E.2.2 1, 1600, .inl g43))] 0 0
  refine mp_run hF mp_tabX10_ok [mp_c (.iinc 2 (-8)) (-8), mp_h (.goto (-30)) [3], mp_i (.iload_n 2), mp_h (.ifCond .lt 32) [36]] (by decide +kernel) ?_
  intro z47 h48
  obtain rfl : z47 = (-8) := h48.trans (by decide)
  refine And.intro (fun _ => ?_) (fun c49 => absurd c49 (by decide))
  show mp_W E X 3 36 [(2, .int (-8)), (0, .ref a0), (1, .int x0)] [] [(a0, .inr (10, [.int 0, .ref a2, .ref a3, .ref a4, .ref a5, .ref a1, .int 16, .int 0, .int 0, .int 0, .int 0, .long 0, .int 0, .int 0, .int 0, .int (-1), .ref a6, .ref a7, .ref a8, .ref a9, .ref a10, .ref a11, .ref a12, .ref a13, .int 0, .ref a14, .ref a15, .ref a16, .ref a17, .int 0, .int 0, .int 0, .ref a18, .ref a19, .int 0, .int 0, .ref a20, .ref a21, .ref a22, .int 0, .int 0, .int 0, .int 0, .ref a23, .ref a24, .ref a25, .int 0])), (a1, .inl (E.2.2 1, 1600, .inl g43))] 0 0
  exact mp_vret hF hQ rfl (Nat.le_of_ble_eq_true rfl) (Nat.le_of_ble_eq_true rfl) [0, 1] (w' := [(a0, .inr (10, [.int 0, .ref a2, .ref a3, .ref a4, .ref a5, .ref a1, .int 16, .int 0, .int 0, .int 0, .int 0, .long 0, .int 0, .int 0, .int 0, .int (-1), .ref a6, .ref a7, .ref a8, .ref a9, .ref a10, .ref a11, .ref a12, .ref a13, .int 0, .ref a14, .ref a15, .ref a16, .ref a17, .int 0, .int 0, .int 0, .ref a18, .ref a19, .int 0, .int 0, .ref a20, .ref a21, .ref a22, .int 0, .int 0, .int 0, .int 0, .ref a23, .ref a24, .ref a25, .int 0])), (a1, .inl (E.2.2 1, 1600, .inl g43))]) rfl rfl ⟨g43, rfl, rfl⟩ (by decide +kernel)
set_option maxHeartbeats 4000000 in
set_option maxRecDepth 100000 in
theorem aX10_four_10 (E : mp_E) (a0 a1 a2 a3 a4 a5 a6 a7 a8 a9 a10 a11 a12 a13 a14 a15 a16 a17 a18 a19 a20 a21 a22 a23 a24 a25 : Nat) (f0 : Nat → Int32) (x0 : Int32) : mp_Ct E yX10_four cX10_four 3 none 0 0 0 0 [.ref a0, .int x0] [(a0, .inr (10, [.int 0, .ref a2, .ref a3, .ref a4, .ref a5, .ref a1, .int 16, .int 0, .int 0, .int 0, .int 0, .long 0, .int 0, .int 0, .int 0, .int (-1), .ref a6, .ref a7, .ref a8, .ref a9, .ref a10, .ref a11, .ref a12, .ref a13, .int 0, .ref a14, .ref a15, .ref a16, .ref a17, .int 0, .int 0, .int 0, .ref a18, .ref a19, .int 0, .int 0, .ref a20, .ref a21, .ref a22, .int 0, .int 0, .int 0, .int 0, .ref a23, .ref a24, .ref a25, .int 0])), (a1, .inl (E.2.2 1, 1600, .inl f0))] (fun v w' => ∃ h0 : Nat → Int32, v = none ∧ w' = [(a0, .inr (10, [.int 0, .ref a2, .ref a3, .ref a4, .ref a5, .ref a1, .int 20, .int 0, .int 0, .int 0, .int 0, .long 0, .int 0, .int 0, .int 0, .int (-1), .ref a6, .ref a7, .ref a8, .ref a9, .ref a10, .ref a11, .ref a12, .ref a13, .int 0, .ref a14, .ref a15, .ref a16, .ref a17, .int 0, .int 0, .int 0, .ref a18, .ref a19, .int 0, .int 0, .ref a20, .ref a21, .ref a22, .int 0, .int 0, .int 0, .int 0, .ref a23, .ref a24, .ref a25, .int 0])), (a1, .inl (E.2.2 1, 1600, .inl h0))]) := by
  refine mp_met false (by decide) (by decide) (Nat.le_of_ble_eq_true rfl) (fun X hF hQ => ?_)
  have hF : mp_F E X (RX10, cX10_four, 3, (0, 0, 0, 0), none, false) := hF
  show mp_W E X 3 0 [(0, .ref a0), (1, .int x0)] [] [(a0, .inr (10, [.int 0, .ref a2, .ref a3, .ref a4, .ref a5, .ref a1, .int 16, .int 0, .int 0, .int 0, .int 0, .long 0, .int 0, .int 0, .int 0, .int (-1), .ref a6, .ref a7, .ref a8, .ref a9, .ref a10, .ref a11, .ref a12, .ref a13, .int 0, .ref a14, .ref a15, .ref a16, .ref a17, .int 0, .int 0, .int 0, .ref a18, .ref a19, .int 0, .int 0, .ref a20, .ref a21, .ref a22, .int 0, .int 0, .int 0, .int 0, .ref a23, .ref a24, .ref a25, .int 0])), (a1, .inl (E.2.2 1, 1600, .inl f0))] 0 0
  refine mp_run hF mp_tabX10_ok [mp_c (.bipush 24) 24, mp_i (.istore_n 2), mp_i (.iload_n 2), mp_h (.ifCond .lt 32) [36]] (by decide +kernel) ?_
  refine And.intro (fun c1 => absurd c1 (by decide)) (fun _ => ?_)
  show mp_W E X 3 7 [(2, .int 24), (0, .ref a0), (1, .int x0)] [] [(a0, .inr (10, [.int 0, .ref a2, .ref a3, .ref a4, .ref a5, .ref a1, .int 16, .int 0, .int 0, .int 0, .int 0, .long 0, .int 0, .int 0, .int 0, .int (-1), .ref a6, .ref a7, .ref a8, .ref a9, .ref a10, .ref a11, .ref a12, .ref a13, .int 0, .ref a14, .ref a15, .ref a16, .ref a17, .int 0, .int 0, .int 0, .ref a18, .ref a19, .int 0, .int 0, .ref a20, .ref a21, .ref a22, .int 0, .int 0, .int 0, .int 0, .ref a23, .ref a24, .ref a25, .int 0])), (a1, .inl (E.2.2 1, 1600, .inl f0))] 0 0
  refine mp_run hF mp_tabX10_ok [mp_i (.aload_n 0), mp_h (.getfield 23) [5, 0], mp_i (.aload_n 0), mp_h (.getfield 109) [6, 0], mp_i (.iload_n 1), mp_i (.iload_n 2), mp_i .ishr, mp_i .i2b, mp_h .bastore [1]] (by decide +kernel) ?_
  refine And.intro rfl (And.intro rfl ?_)
  refine And.intro rfl (And.intro rfl ?_)
  intro z2 h3
  intro z5 h6
  refine And.intro rfl (And.intro rfl (And.intro (vp_in_iff.mpr (by decide)) ?_))
  intro g7 h8
  show mp_W E X 3 20 [(2, .int 24), (0, .ref a0), (1, .int x0)] [] [(a0, .inr (10, [.int 0, .ref a2, .ref a3, .ref a4, .ref a5, .ref a1, .int 16, .int 0, .int 0, .int 0, .int 0, .long 0, .int 0, .int 0, .int 0, .int (-1), .ref a6, .ref a7, .ref a8, .ref a9, .ref a10, .ref a11, .ref a12, .ref a13, .int 0, .ref a14, .ref a15, .ref a16, .ref a17, .int 0, .int 0, .int 0, .ref a18, .ref a19, .int 0, .int 0, .ref a20, .ref a21, .ref a22, .int 0, .int 0, .int 0, .int 0, .ref a23, .ref a24, .ref a25, .int 0])), (a1, .inl (E.2.2 1, 1600, .inl g7))] 0 0
  refine mp_run hF mp_tabX10_ok [mp_i (.aload_n 0), mp_i .dup, mp_h (.getfield 109) [6, 0], mp_c (.iconst 1) 1, mp_i .iadd, mp_h (.putfield 109) [6, 0]] (by decide +kernel) ?_
  refine And.intro rfl ?_
  refine And.intro rfl (And.intro rfl ?_)
  intro z9 h10
  obtain rfl : z9 = 17 := h10.trans (by decide)
  refine And.intro rfl (And.intro rfl (And.intro rfl (And.intro rfl (And.intro (Nat.le_of_ble_eq_true rfl) ?_))))
  show mp_W E X 3 30 [(2, .int 24), (0, .ref a0), (1, .int x0)] [] [(a0, .inr (10, [.int 0, .ref a2, .ref a3, .ref a4, .ref a5, .ref a1, .int 17, .int 0, .int 0, .int 0, .int 0, .long 0, .int 0, .int 0, .int 0, .int (-1), .ref a6, .ref a7, .ref a8, .ref a9, .ref a10, .ref a11, .ref a12, .ref a13, .int 0, .ref a14, .ref a15, .ref a16, .ref a17, .int 0, .int 0, .int 0, .ref a18, .ref a19, .int 0, .int 0, .ref a20, .ref a21, .ref a22, .int 0, .int 0, .int 0, .int 0, .ref a23, .ref a24, .ref a25, .int 0])), (a1, .inl (E.2.2 1, 1600, .inl g7))] 0 0
  refine mp_run hF mp_tabX10_ok [mp_c (.iinc 2 (-8)) (-8), mp_h (.goto (-30)) [3], mp_i (.iload_n 2), mp_h (.ifCond .lt 32) [36]] (by decide +kernel) ?_
  intro z11 h12
  obtain rfl : z11 = 16 := h12.trans (by decide)
  refine And.intro (fun c13 => absurd c13 (by decide)) (fun _ => ?_)
  show mp_W E X 3 7 [(2, .int 16), (0, .ref a0), (1, .int x0)] [] [(a0, .inr (10, [.int 0, .ref a2, .ref a3, .ref a4, .ref a5, .ref a1, .int 17, .int 0, .int 0, .int 0, .int 0, .long 0, .int 0, .int 0, .int 0, .int (-1), .ref a6, .ref a7, .ref a8, .ref a9, .ref a10, .ref a11, .ref a12, .ref a13, .int 0, .ref a14, .ref a15, .ref a16, .ref a17, .int 0, .int 0, .int 0, .ref a18, .ref a19, .int 0, .int 0, .ref a20, .ref a21, .ref a22, .int 0, .int 0, .int 0, .int 0, .ref a23, .ref a24, .ref a25, .int 0])), (a1, .inl (E.2.2 1, 1600, .inl g7))] 0 0
  refine mp_run hF mp_tabX10_ok [mp_i (.aload_n 0), mp_h (.getfield 23) [5, 0], mp_i (.aload_n 0), mp_h (.getfield 109) [6, 0], mp_i (.iload_n 1), mp_i (.iload_n 2), mp_i .ishr, mp_i .i2b, mp_h .bastore [1]] (by decide +kernel) ?_
  refine And.intro rfl (And.intro rfl ?_)
  refine And.intro rfl (And.intro rfl ?_)
  intro z14 h15
  intro z17 h18
  refine And.intro rfl (And.intro rfl (And.intro (vp_in_iff.mpr (by decide)) ?_))
  intro g19 h20
  show mp_W E X 3 20 [(2, .int 16), (0, .ref a0), (1, .int x0)] [] [(a0, .inr (10, [.int 0, .ref a2, .ref a3, .ref a4, .ref a5, .ref a1, .int 17, .int 0, .int 0, .int 0, .int 0, .long 0, .int 0, .int 0, .int 0, .int (-1), .ref a6, .ref a7, .ref a8, .ref a9, .ref a10, .ref a11, .ref a12, .ref a13, .int 0, .ref a14, .ref a15, .ref a16, .ref a17, .int 0, .int 0, .int 0, .ref a18, .ref a19, .int 0, .int 0, .ref a20, .ref a21, .ref a22, .int 0, .int 0, .int 0, .int 0, .ref a23, .ref a24, .ref a25, .int 0])), (a1, .inl (E.2.2 1, 1600, .inl g19))] 0 0
  refine mp_run hF mp_tabX10_ok [mp_i (.aload_n 0), mp_i .dup, mp_h (.getfield 109) [6, 0], mp_c (.iconst 1) 1, mp_i .iadd, mp_h (.putfield 109) [6, 0]] (by decide +kernel) ?_
  refine And.intro rfl ?_
  refine And.intro rfl (And.intro rfl ?_)
  intro z21 h22
  obtain rfl : z21 = 18 := h22.trans (by decide)
  refine And.intro rfl (And.intro rfl (And.intro rfl (And.intro rfl (And.intro (Nat.le_of_ble_eq_true rfl) ?_))))
  show mp_W E X 3 30 [(2, .int 16), (0, .ref a0), (1, .int x0)] [] [(a0, .inr (10, [.int 0, .ref a2, .ref a3, .ref a4, .ref a5, .ref a1, .int 18, .int 0, .int 0, .int 0, .int 0, .long 0, .int 0, .int 0, .int 0, .int (-1), .ref a6, .ref a7, .ref a8, .ref a9, .ref a10, .ref a11, .ref a12, .ref a13, .int 0, .ref a14, .ref a15, .ref a16, .ref a17, .int 0, .int 0, .int 0, .ref a18, .ref a19, .int 0, .int 0, .ref a20, .ref a21, .ref a22, .int 0, .int 0, .int 0, .int 0, .ref a23, .ref a24, .ref a25, .int 0])), (a1, .inl (E.2.2 1, 1600, .inl g19))] 0 0
  refine mp_run hF mp_tabX10_ok [mp_c (.iinc 2 (-8)) (-8), mp_h (.goto (-30)) [3], mp_i (.iload_n 2), mp_h (.ifCond .lt 32) [36]] (by decide +kernel) ?_
  intro z23 h24
  obtain rfl : z23 = 8 := h24.trans (by decide)
  refine And.intro (fun c25 => absurd c25 (by decide)) (fun _ => ?_)
  show mp_W E X 3 7 [(2, .int 8), (0, .ref a0), (1, .int x0)] [] [(a0, .inr (10, [.int 0, .ref a2, .ref a3, .ref a4, .ref a5, .ref a1, .int 18, .int 0, .int 0, .int 0, .int 0, .long 0, .int 0, .int 0, .int 0, .int (-1), .ref a6, .ref a7, .ref a8, .ref a9, .ref a10, .ref a11, .ref a12, .ref a13, .int 0, .ref a14, .ref a15, .ref a16, .ref a17, .int 0, .int 0, .int 0, .ref a18, .ref a19, .int 0, .int 0, .ref a20, .ref a21, .ref a22, .int 0, .int 0, .int 0, .int 0, .ref a23, .ref a24, .ref a25, .int 0])), (a1, .inl (E.2.2 1, 1600, .inl g19))] 0 0
  refine mp_run hF mp_tabX10_ok [mp_i (.aload_n 0), mp_h (.getfield 23) [5, 0], mp_i (.aload_n 0), mp_h (.getfield 109) [6, 0], mp_i (.iload_n 1), mp_i (.iload_n 2), mp_i .ishr, mp_i .i2b, mp_h .bastore [1]] (by decide +kernel) ?_
  refine And.intro rfl (And.intro rfl ?_)
  refine And.intro rfl (And.intro rfl ?_)
  intro z26 h27
  intro z29 h30
  refine And.intro rfl (And.intro rfl (And.intro (vp_in_iff.mpr (by decide)) ?_))
  intro g31 h32
  show mp_W E X 3 20 [(2, .int 8), (0, .ref a0), (1, .int x0)] [] [(a0, .inr (10, [.int 0, .ref a2, .ref a3, .ref a4, .ref a5, .ref a1, .int 18, .int 0, .int 0, .int 0, .int 0, .long 0, .int 0, .int 0, .int 0, .int (-1), .ref a6, .ref a7, .ref a8, .ref a9, .ref a10, .ref a11, .ref a12, .ref a13, .int 0, .ref a14, .ref a15, .ref a16, .ref a17, .int 0, .int 0, .int 0, .ref a18, .ref a19, .int 0, .int 0, .ref a20, .ref a21, .ref a22, .int 0, .int 0, .int 0, .int 0, .ref a23, .ref a24, .ref a25, .int 0])), (a1, .inl (E.2.2 1, 1600, .inl g31))] 0 0
  refine mp_run hF mp_tabX10_ok [mp_i (.aload_n 0), mp_i .dup, mp_h (.getfield 109) [6, 0], mp_c (.iconst 1) 1, mp_i .iadd, mp_h (.putfield 109) [6, 0]] (by decide +kernel) ?_
  refine And.intro rfl ?_
  refine And.intro rfl (And.intro rfl ?_)
  intro z33 h34
  obtain rfl : z33 = 19 := h34.trans (by decide)
  refine And.intro rfl (And.intro rfl (And.intro rfl (And.intro rfl (And.intro (Nat.le_of_ble_eq_true rfl) ?_))))
  show mp_W E X 3 30 [(2, .int 8), (0, .ref a0), (1, .int x0)] [] [(a0, .inr (10, [.int 0, .ref a2, .ref a3, .ref a4, .ref a5, .ref a1, .int 19, .int 0, .int 0, .int 0, .int 0, .long 0, .int 0, .int 0, .int 0, .int (-1), .ref a6, .ref a7, .ref a8, .ref a9, .ref a10, .ref a11, .ref a12, .ref a13, .int 0, .ref a14, .ref a15, .ref a16, .ref a17, .int 0, .int 0, .int 0, .ref a18, .ref a19, .int 0, .int 0, .ref a20, .ref a21, .ref a22, .int 0, .int 0, .int 0, .int 0, .ref a23, .ref a24, .ref a25, .int 0])), (a1, .inl (E.2.2 1, 1600, .inl g31))] 0 0
  refine mp_run hF mp_tabX10_ok [mp_c (.iinc 2 (-8)) (-8), mp_h (.goto (-30)) [3], mp_i (.iload_n 2), mp_h (.ifCond .lt 32) [36]] (by decide +kernel) ?_
  intro z35 h36
  obtain rfl : z35 = 0 := h36.trans (by decide)
  refine And.intro (fun c37 => absurd c37 (by decide)) (fun _ => ?_)
  show mp_W E X 3 7 [(2, .int 0), (0, .ref a0), (1, .int x0)] [] [(a0, .inr (10, [.int 0, .ref a2, .ref a3, .ref a4, .ref a5, .ref a1, .int 19, .int 0, .int 0, .int 0, .int 0, .long 0, .int 0, .int 0, .int 0, .int (-1), .ref a6, .ref a7, .ref a8, .ref a9, .ref a10, .ref a11, .ref a12, .ref a13, .int 0, .ref a14, .ref a15, .ref a16, .ref a17, .int 0, .int 0, .int 0, .ref a18, .ref a19, .int 0, .int 0, .ref a20, .ref a21, .ref a22, .int 0, .int 0, .int 0, .int 0, .ref a23, .ref a24, .ref a25, .int 0])), (a1, .inl (E.2.2 1, 1600, .inl g31))] 0 0
  refine mp_run hF mp_tabX10_ok [mp_i (.aload_n 0), mp_h (.getfield 23) [5, 0], mp_i (.aload_n 0), mp_h (.getfield 109) [6, 0], mp_i (.iload_n 1), mp_i (.iload_n 2), mp_i .ishr, mp_i .i2b, mp_h .bastore [1]] (by decide +kernel) ?_
  refine And.intro rfl (And.intro rfl ?_)
  refine And.intro rfl (And.intro rfl ?_)
  intro z38 h39
  intro z41 h42
  refine And.intro rfl (And.intro rfl (And.intro (vp_in_iff.mpr (by decide)) ?_))
  intro g43 h44
  show mp_W E X 3 20 [(2, .int 0), (0, .ref a0), (1, .int x0)] [] [(a0, .inr (10, [.int 0, .ref a2, .ref a3, .ref a4, .ref a5, .ref a1, .int 19, .int 0, .int 0, .int 0, .int 0, .long 0, .int 0, .int 0, .int 0, .int (-1), .ref a6, .ref a7, .ref a8, .ref a9, .ref a10, .ref a11, .ref a12, .ref a13, .int 0, .ref a14, .ref a15, .ref a16, .ref a17, .int 0, .int 0, .int 0, .ref a18, .ref a19, .int 0, .int 0, .ref a20, .ref a21, .ref a22, .int 0, .int 0, .int 0, .int 0, .ref a23, .ref a24, .ref a25, .int 0])), (a1, .inl (E.2.2 1, 1600, .inl g43))] 0 0
  refine mp_run hF mp_tabX10_ok [mp_i (.aload_n 0), mp_i .dup, mp_h (.getfield 109) [6, 0], mp_c (.iconst 1) 1, mp_i .iadd, mp_h (.putfield 109) [6, 0]] (by decide +kernel) ?_
  refine And.intro rfl ?_
  refine And.intro rfl (And.intro rfl ?_)
  intro z45 h46
  obtain rfl : z45 = 20 := h46.trans (by decide)
  refine And.intro rfl (And.intro rfl (And.intro rfl (And.intro rfl (And.intro (Nat.le_of_ble_eq_true rfl) ?_))))
  show mp_W E X 3 30 [(2, .int 0), (0, .ref a0), (1, .int x0)] [] [(a0, .inr (10, [.int 0, .ref a2, .ref a3, .ref a4, .ref a5, .ref a1, .int 20, .int 0, .int 0, .int 0, .int 0, .long 0, .int 0, .int 0, .int 0, .int (-1), .ref a6, .ref a7, .ref a8, .ref a9, .ref a10, .ref a11, .ref a12, .ref a13, .int 0, .ref a14, .ref a15, .ref a16, .ref a17, .int 0, .int 0, .int 0, .ref a18, .ref a19, .int 0, .int 0, .ref a20, .ref a21, .ref a22, .int 0, .int 0, .int 0, .int 0, .ref a23, .ref a24, .ref a25, .int 0])), (a1, .inl (E.2.2 1, 1600, .inl g43))] 0 0
  refine mp_run hF mp_tabX10_ok [mp_c (.iinc 2 (-8)) (-8), mp_h (.goto (-30)) [3], mp_i (.iload_n 2), mp_h (.ifCond .lt 32) [36]] (by decide +kernel) ?_
  intro z47 h48
  obtain rfl : z47 = (-8) := h48.trans (by decide)
  refine And.intro (fun _ => ?_) (fun c49 => absurd c49 (by decide))
  show mp_W E X 3 36 [(2, .int (-8)), (0, .ref a0), (1, .int x0)] [] [(a0, .inr (10, [.int 0, .ref a2, .ref a3, .ref a4, .ref a5, .ref a1, .int 20, .int 0, .int 0, .int 0, .int 0, .long 0, .int 0, .int 0, .int 0, .int (-1), .ref a6, .ref a7, .ref a8, .ref a9, .ref a10, .ref a11, .ref a12, .ref a13, .int 0, .ref a14, .ref a15, .ref a16, .ref a17, .int 0, .int 0, .int 0, .ref a18, .ref a19, .int 0, .int 0, .ref a20, .ref a21, .ref a22, .int 0, .int 0, .int 0, .int 0, .ref a23, .ref a24, .ref a25, .int 0])), (a1, .inl (E.2.2 1, 1600, .inl g43))] 0 0
  exact mp_vret hF hQ rfl (Nat.le_of_ble_eq_true rfl) (Nat.le_of_ble_eq_true rfl) [0, 1] (w' := [(a0, .inr (10, [.int 0, .ref a2, .ref a3, .ref a4, .ref a5, .ref a1, .int 20, .int 0, .int 0, .int 0, .int 0, .long 0, .int 0, .int 0, .int 0, .int (-1), .ref a6, .ref a7, .ref a8, .ref a9, .ref a10, .ref a11, .ref a12, .ref a13, .int 0, .ref a14, .ref a15, .ref a16, .ref a17, .int 0, .int 0, .int 0, .ref a18, .ref a19, .int 0, .int 0, .ref a20, .ref a21, .ref a22, .int 0, .int 0, .int 0, .int 0, .ref a23, .ref a24, .ref a25, .int 0])), (a1, .inl (E.2.2 1, 1600, .inl g43))]) rfl rfl ⟨g43, rfl, rfl⟩ (by decide +kernel)
set_option maxHeartbeats 4000000 in
set_option maxRecDepth 100000 in
theorem aX10_feed_11 (E : mp_E) (a0 a1 a2 a3 a4 a5 a6 a7 a8 a9 a10 a11 a12 a13 a14 a15 a16 a17 a18 a19 a20 a21 a22 a23 a24 a25 : Nat) (x0 : Int32) (x1 : Int32) (x2 : Int32) (x3 : Int32) (x4 : Int32) : mp_Ct E yX10_feed cX10_feed 6 (some FieldType.int) 1 0 0 22 [.ref a0, .int x0, .int x1, .int x2, .int x3, .int x4] [(a0, .inr (10, [.int 0, .ref a2, .ref a3, .ref a4, .ref a5, .ref a1, .int 0, .int 0, .int 0, .int 0, .int 0, .long 0, .int 0, .int 0, .int 0, .int (-1), .ref a6, .ref a7, .ref a8, .ref a9, .ref a10, .ref a11, .ref a12, .ref a13, .int 0, .ref a14, .ref a15, .ref a16, .ref a17, .int 0, .int 0, .int 0, .ref a18, .ref a19, .int 0, .int 0, .ref a20, .ref a21, .ref a22, .int 0, .int 0, .int 0, .int 0, .ref a23, .ref a24, .ref a25, .int 0])), (a1, .inl (E.2.2 1, 1600, .inl (fun _ => 0)))] (fun v w' => v = some (.int 20) ∧ w' = []) := by
  refine mp_met false (by decide) (by decide) (Nat.le_of_ble_eq_true rfl) (fun X hF hQ => ?_)
  have hF : mp_F E X (RX10, cX10_feed, 6, (1, 0, 0, 22), (some FieldType.int), false) := hF
  show mp_W E X 6 0 [(0, .ref a0), (1, .int x0), (2, .int x1), (3, .int x2), (4, .int x3), (5, .int x4)] [] [(a0, .inr (10, [.int 0, .ref a2, .ref a3, .ref a4, .ref a5, .ref a1, .int 0, .int 0, .int 0, .int 0, .int 0, .long 0, .int 0, .int 0, .int 0, .int (-1), .ref a6, .ref a7, .ref a8, .ref a9, .ref a10, .ref a11, .ref a12, .ref a13, .int 0, .ref a14, .ref a15, .ref a16, .ref a17, .int 0, .int 0, .int 0, .ref a18, .ref a19, .int 0, .int 0, .ref a20, .ref a21, .ref a22, .int 0, .int 0, .int 0, .int 0, .ref a23, .ref a24, .ref a25, .int 0])), (a1, .inl (E.2.2 1, 1600, .inl (fun _ => 0)))] 0 0
  refine mp_run hF mp_tabX10_ok [mp_i (.aload_n 0), mp_c (.iconst 0) 0, mp_h (.putfield 92) [0, 0]] (by decide +kernel) ?_
  refine And.intro rfl (And.intro rfl (And.intro rfl (And.intro rfl (And.intro (Nat.le_of_ble_eq_true rfl) ?_))))
  show mp_W E X 6 5 [(0, .ref a0), (1, .int x0), (2, .int x1), (3, .int x2), (4, .int x3), (5, .int x4)] [] [(a0, .inr (10, [.int 0, .ref a2, .ref a3, .ref a4, .ref a5, .ref a1, .int 0, .int 0, .int 0, .int 0, .int 0, .long 0, .int 0, .int 0, .int 0, .int (-1), .ref a6, .ref a7, .ref a8, .ref a9, .ref a10, .ref a11, .ref a12, .ref a13, .int 0, .ref a14, .ref a15, .ref a16, .ref a17, .int 0, .int 0, .int 0, .ref a18, .ref a19, .int 0, .int 0, .ref a20, .ref a21, .ref a22, .int 0, .int 0, .int 0, .int 0, .ref a23, .ref a24, .ref a25, .int 0])), (a1, .inl (E.2.2 1, 1600, .inl (fun _ => 0)))] 0 0
  refine mp_run hF mp_tabX10_ok [mp_i (.aload_n 0), mp_h (.getfield 109) [6, 0], mp_c (.bipush 20) 20, mp_i .iadd, mp_c (.sipush 1600) 1600, mp_h (.if_icmp .le 5) [20]] (by decide +kernel) ?_
  refine And.intro rfl (And.intro rfl ?_)
  intro z1 h2
  obtain rfl : z1 = 20 := h2.trans (by decide)
  refine And.intro (fun _ => ?_) (fun c3 => absurd c3 (by decide))
  show mp_W E X 6 20 [(0, .ref a0), (1, .int x0), (2, .int x1), (3, .int x2), (4, .int x3), (5, .int x4)] [] [(a0, .inr (10, [.int 0, .ref a2, .ref a3, .ref a4, .ref a5, .ref a1, .int 0, .int 0, .int 0, .int 0, .int 0, .long 0, .int 0, .int 0, .int 0, .int (-1), .ref a6, .ref a7, .ref a8, .ref a9, .ref a10, .ref a11, .ref a12, .ref a13, .int 0, .ref a14, .ref a15, .ref a16, .ref a17, .int 0, .int 0, .int 0, .ref a18, .ref a19, .int 0, .int 0, .ref a20, .ref a21, .ref a22, .int 0, .int 0, .int 0, .int 0, .ref a23, .ref a24, .ref a25, .int 0])), (a1, .inl (E.2.2 1, 1600, .inl (fun _ => 0)))] 0 0
  refine mp_run hF mp_tabX10_ok [mp_i (.aload_n 0), mp_i (.iload_n 1)] (by decide +kernel) ?_
  show mp_W E X 6 22 [(0, .ref a0), (1, .int x0), (2, .int x1), (3, .int x2), (4, .int x3), (5, .int x4)] [.int x0, .ref a0] [(a0, .inr (10, [.int 0, .ref a2, .ref a3, .ref a4, .ref a5, .ref a1, .int 0, .int 0, .int 0, .int 0, .int 0, .long 0, .int 0, .int 0, .int 0, .int (-1), .ref a6, .ref a7, .ref a8, .ref a9, .ref a10, .ref a11, .ref a12, .ref a13, .int 0, .ref a14, .ref a15, .ref a16, .ref a17, .int 0, .int 0, .int 0, .ref a18, .ref a19, .int 0, .int 0, .ref a20, .ref a21, .ref a22, .int 0, .int 0, .int 0, .int 0, .ref a23, .ref a24, .ref a25, .int 0])), (a1, .inl (E.2.2 1, 1600, .inl (fun _ => 0)))] 0 0
  refine mp_callV hF (As := [.int x0]) (rest := []) (wr := []) (aX10_four_6 E a0 a1 a2 a3 a4 a5 a6 a7 a8 a9 a10 a11 a12 a13 a14 a15 a16 a17 a18 a19 a20 a21 a22 a23 a24 a25 x0) mp_lkX10_112 0 rfl [0, 1] [] rfl rfl rfl rfl rfl ⟨(Nat.le_of_ble_eq_true rfl), (Nat.le_of_ble_eq_true rfl), (Nat.le_of_ble_eq_true rfl), (Nat.le_of_ble_eq_true rfl)⟩ (Nat.le_of_ble_eq_true rfl) (by decide +kernel) (fun v4 w5 h6 => ?_)
  obtain ⟨g7, rfl, rfl⟩ := h6
  show mp_W E X 6 25 [(0, .ref a0), (1, .int x0), (2, .int x1), (3, .int x2), (4, .int x3), (5, .int x4)] [] [(a0, .inr (10, [.int 0, .ref a2, .ref a3, .ref a4, .ref a5, .ref a1, .int 4, .int 0, .int 0, .int 0, .int 0, .long 0, .int 0, .int 0, .int 0, .int (-1), .ref a6, .ref a7, .ref a8, .ref a9, .ref a10, .ref a11, .ref a12, .ref a13, .int 0, .ref a14, .ref a15, .ref a16, .ref a17, .int 0, .int 0, .int 0, .ref a18, .ref a19, .int 0, .int 0, .ref a20, .ref a21, .ref a22, .int 0, .int 0, .int 0, .int 0, .ref a23, .ref a24, .ref a25, .int 0])), (a1, .inl (E.2.2 1, 1600, .inl g7))] 0 0
  refine mp_run hF mp_tabX10_ok [mp_i (.aload_n 0), mp_i (.iload_n 2)] (by decide +kernel) ?_
  show mp_W E X 6 27 [(0, .ref a0), (1, .int x0), (2, .int x1), (3, .int x2), (4, .int x3), (5, .int x4)] [.int x1, .ref a0] [(a0, .inr (10, [.int 0, .ref a2, .ref a3, .ref a4, .ref a5, .ref a1, .int 4, .int 0, .int 0, .int 0, .int 0, .long 0, .int 0, .int 0, .int 0, .int (-1), .ref a6, .ref a7, .ref a8, .ref a9, .ref a10, .ref a11, .ref a12, .ref a13, .int 0, .ref a14, .ref a15, .ref a16, .ref a17, .int 0, .int 0, .int 0, .ref a18, .ref a19, .int 0, .int 0, .ref a20, .ref a21, .ref a22, .int 0, .int 0, .int 0, .int 0, .ref a23, .ref a24, .ref a25, .int 0])), (a1, .inl (E.2.2 1, 1600, .inl g7))] 0 0
  refine mp_callV hF (As := [.int x1]) (rest := []) (wr := []) (aX10_four_7 E a0 a1 a2 a3 a4 a5 a6 a7 a8 a9 a10 a11 a12 a13 a14 a15 a16 a17 a18 a19 a20 a21 a22 a23 a24 a25 g7 x1) mp_lkX10_112 0 rfl [0, 1] [] rfl rfl rfl rfl rfl ⟨(Nat.le_of_ble_eq_true rfl), (Nat.le_of_ble_eq_true rfl), (Nat.le_of_ble_eq_true rfl), (Nat.le_of_ble_eq_true rfl)⟩ (Nat.le_of_ble_eq_true rfl) (by decide +kernel) (fun v8 w9 h10 => ?_)
  obtain ⟨g11, rfl, rfl⟩ := h10
  show mp_W E X 6 30 [(0, .ref a0), (1, .int x0), (2, .int x1), (3, .int x2), (4, .int x3), (5, .int x4)] [] [(a0, .inr (10, [.int 0, .ref a2, .ref a3, .ref a4, .ref a5, .ref a1, .int 8, .int 0, .int 0, .int 0, .int 0, .long 0, .int 0, .int 0, .int 0, .int (-1), .ref a6, .ref a7, .ref a8, .ref a9, .ref a10, .ref a11, .ref a12, .ref a13, .int 0, .ref a14, .ref a15, .ref a16, .ref a17, .int 0, .int 0, .int 0, .ref a18, .ref a19, .int 0, .int 0, .ref a20, .ref a21, .ref a22, .int 0, .int 0, .int 0, .int 0, .ref a23, .ref a24, .ref a25, .int 0])), (a1, .inl (E.2.2 1, 1600, .inl g11))] 0 0
  refine mp_run hF mp_tabX10_ok [mp_i (.aload_n 0), mp_i (.iload_n 3)] (by decide +kernel) ?_
  show mp_W E X 6 32 [(0, .ref a0), (1, .int x0), (2, .int x1), (3, .int x2), (4, .int x3), (5, .int x4)] [.int x2, .ref a0] [(a0, .inr (10, [.int 0, .ref a2, .ref a3, .ref a4, .ref a5, .ref a1, .int 8, .int 0, .int 0, .int 0, .int 0, .long 0, .int 0, .int 0, .int 0, .int (-1), .ref a6, .ref a7, .ref a8, .ref a9, .ref a10, .ref a11, .ref a12, .ref a13, .int 0, .ref a14, .ref a15, .ref a16, .ref a17, .int 0, .int 0, .int 0, .ref a18, .ref a19, .int 0, .int 0, .ref a20, .ref a21, .ref a22, .int 0, .int 0, .int 0, .int 0, .ref a23, .ref a24, .ref a25, .int 0])), (a1, .inl (E.2.2 1, 1600, .inl g11))] 0 0
  refine mp_callV hF (As := [.int x2]) (rest := []) (wr := []) (aX10_four_8 E a0 a1 a2 a3 a4 a5 a6 a7 a8 a9 a10 a11 a12 a13 a14 a15 a16 a17 a18 a19 a20 a21 a22 a23 a24 a25 g11 x2) mp_lkX10_112 0 rfl [0, 1] [] rfl rfl rfl rfl rfl ⟨(Nat.le_of_ble_eq_true rfl), (Nat.le_of_ble_eq_true rfl), (Nat.le_of_ble_eq_true rfl), (Nat.le_of_ble_eq_true rfl)⟩ (Nat.le_of_ble_eq_true rfl) (by decide +kernel) (fun v12 w13 h14 => ?_)
  obtain ⟨g15, rfl, rfl⟩ := h14
  show mp_W E X 6 35 [(0, .ref a0), (1, .int x0), (2, .int x1), (3, .int x2), (4, .int x3), (5, .int x4)] [] [(a0, .inr (10, [.int 0, .ref a2, .ref a3, .ref a4, .ref a5, .ref a1, .int 12, .int 0, .int 0, .int 0, .int 0, .long 0, .int 0, .int 0, .int 0, .int (-1), .ref a6, .ref a7, .ref a8, .ref a9, .ref a10, .ref a11, .ref a12, .ref a13, .int 0, .ref a14, .ref a15, .ref a16, .ref a17, .int 0, .int 0, .int 0, .ref a18, .ref a19, .int 0, .int 0, .ref a20, .ref a21, .ref a22, .int 0, .int 0, .int 0, .int 0, .ref a23, .ref a24, .ref a25, .int 0])), (a1, .inl (E.2.2 1, 1600, .inl g15))] 0 0
  refine mp_run hF mp_tabX10_ok [mp_i (.aload_n 0), mp_i (.iload 4)] (by decide +kernel) ?_
  show mp_W E X 6 38 [(0, .ref a0), (1, .int x0), (2, .int x1), (3, .int x2), (4, .int x3), (5, .int x4)] [.int x3, .ref a0] [(a0, .inr (10, [.int 0, .ref a2, .ref a3, .ref a4, .ref a5, .ref a1, .int 12, .int 0, .int 0, .int 0, .int 0, .long 0, .int 0, .int 0, .int 0, .int (-1), .ref a6, .ref a7, .ref a8, .ref a9, .ref a10, .ref a11, .ref a12, .ref a13, .int 0, .ref a14, .ref a15, .ref a16, .ref a17, .int 0, .int 0, .int 0, .ref a18, .ref a19, .int 0, .int 0, .ref a20, .ref a21, .ref a22, .int 0, .int 0, .int 0, .int 0, .ref a23, .ref a24, .ref a25, .int 0])), (a1, .inl (E.2.2 1, 1600, .inl g15))] 0 0
  refine mp_callV hF (As := [.int x3]) (rest := []) (wr := []) (aX10_four_9 E a0 a1 a2 a3 a4 a5 a6 a7 a8 a9 a10 a11 a12 a13 a14 a15 a16 a17 a18 a19 a20 a21 a22 a23 a24 a25 g15 x3) mp_lkX10_112 0 rfl [0, 1] [] rfl rfl rfl rfl rfl ⟨(Nat.le_of_ble_eq_true rfl), (Nat.le_of_ble_eq_true rfl), (Nat.le_of_ble_eq_true rfl), (Nat.le_of_ble_eq_true rfl)⟩ (Nat.le_of_ble_eq_true rfl) (by decide +kernel) (fun v16 w17 h18 => ?_)
  obtain ⟨g19, rfl, rfl⟩ := h18
  show mp_W E X 6 41 [(0, .ref a0), (1, .int x0), (2, .int x1), (3, .int x2), (4, .int x3), (5, .int x4)] [] [(a0, .inr (10, [.int 0, .ref a2, .ref a3, .ref a4, .ref a5, .ref a1, .int 16, .int 0, .int 0, .int 0, .int 0, .long 0, .int 0, .int 0, .int 0, .int (-1), .ref a6, .ref a7, .ref a8, .ref a9, .ref a10, .ref a11, .ref a12, .ref a13, .int 0, .ref a14, .ref a15, .ref a16, .ref a17, .int 0, .int 0, .int 0, .ref a18, .ref a19, .int 0, .int 0, .ref a20, .ref a21, .ref a22, .int 0, .int 0, .int 0, .int 0, .ref a23, .ref a24, .ref a25, .int 0])), (a1, .inl (E.2.2 1, 1600, .inl g19))] 0 0
  refine mp_run hF mp_tabX10_ok [mp_i (.aload_n 0), mp_i (.iload 5)] (by decide +kernel) ?_
  show mp_W E X 6 44 [(0, .ref a0), (1, .int x0), (2, .int x1), (3, .int x2), (4, .int x3), (5, .int x4)] [.int x4, .ref a0] [(a0, .inr (10, [.int 0, .ref a2, .ref a3, .ref a4, .ref a5, .ref a1, .int 16, .int 0, .int 0, .int 0, .int 0, .long 0, .int 0, .int 0, .int 0, .int (-1), .ref a6, .ref a7, .ref a8, .ref a9, .ref a10, .ref a11, .ref a12, .ref a13, .int 0, .ref a14, .ref a15, .ref a16, .ref a17, .int 0, .int 0, .int 0, .ref a18, .ref a19, .int 0, .int 0, .ref a20, .ref a21, .ref a22, .int 0, .int 0, .int 0, .int 0, .ref a23, .ref a24, .ref a25, .int 0])), (a1, .inl (E.2.2 1, 1600, .inl g19))] 0 0
  refine mp_callV hF (As := [.int x4]) (rest := []) (wr := []) (aX10_four_10 E a0 a1 a2 a3 a4 a5 a6 a7 a8 a9 a10 a11 a12 a13 a14 a15 a16 a17 a18 a19 a20 a21 a22 a23 a24 a25 g19 x4) mp_lkX10_112 0 rfl [0, 1] [] rfl rfl rfl rfl rfl ⟨(Nat.le_of_ble_eq_true rfl), (Nat.le_of_ble_eq_true rfl), (Nat.le_of_ble_eq_true rfl), (Nat.le_of_ble_eq_true rfl)⟩ (Nat.le_of_ble_eq_true rfl) (by decide +kernel) (fun v20 w21 h22 => ?_)
  obtain ⟨g23, rfl, rfl⟩ := h22
  show mp_W E X 6 47 [(0, .ref a0), (1, .int x0), (2, .int x1), (3, .int x2), (4, .int x3), (5, .int x4)] [] [(a0, .inr (10, [.int 0, .ref a2, .ref a3, .ref a4, .ref a5, .ref a1, .int 20, .int 0, .int 0, .int 0, .int 0, .long 0, .int 0, .int 0, .int 0, .int (-1), .ref a6, .ref a7, .ref a8, .ref a9, .ref a10, .ref a11, .ref a12, .ref a13, .int 0, .ref a14, .ref a15, .ref a16, .ref a17, .int 0, .int 0, .int 0, .ref a18, .ref a19, .int 0, .int 0, .ref a20, .ref a21, .ref a22, .int 0, .int 0, .int 0, .int 0, .ref a23, .ref a24, .ref a25, .int 0])), (a1, .inl (E.2.2 1, 1600, .inl g23))] 0 0
  refine mp_run hF mp_tabX10_ok [mp_i (.aload_n 0), mp_h (.getfield 109) [6, 0]] (by decide +kernel) ?_
  refine And.intro rfl (And.intro rfl ?_)
  show mp_W E X 6 51 [(0, .ref a0), (1, .int x0), (2, .int x1), (3, .int x2), (4, .int x3), (5, .int x4)] [.int 20] [(a0, .inr (10, [.int 0, .ref a2, .ref a3, .ref a4, .ref a5, .ref a1, .int 20, .int 0, .int 0, .int 0, .int 0, .long 0, .int 0, .int 0, .int 0, .int (-1), .ref a6, .ref a7, .ref a8, .ref a9, .ref a10, .ref a11, .ref a12, .ref a13, .int 0, .ref a14, .ref a15, .ref a16, .ref a17, .int 0, .int 0, .int 0, .ref a18, .ref a19, .int 0, .int 0, .ref a20, .ref a21, .ref a22, .int 0, .int 0, .int 0, .int 0, .ref a23, .ref a24, .ref a25, .int 0])), (a1, .inl (E.2.2 1, 1600, .inl g23))] 0 0
  exact mp_iret hF hQ rfl rfl (Nat.le_of_ble_eq_true rfl) (Nat.le_of_ble_eq_true rfl) [] (w' := []) rfl rfl ⟨rfl, rfl⟩ (by decide +kernel)
set_option maxHeartbeats 4000000 in
set_option maxRecDepth 100000 in
theorem aX9_end_12 (E : mp_E) (a0 a1 a2 a3 a4 a5 a6 a7 a8 a9 a10 a11 : Nat) (x0 : Int32) : mp_Ct E yX9_end cX9_end 2 (some FieldType.int) 0 0 0 0 [.ref a0, .int x0] [(a0, .inr (9, [.ref a1, .ref a2, .ref a3, .ref a4, .ref a5, .ref a6, .ref a7, .ref a8, .ref a9])), (a1, .inr (3, [.ref a10, .int 0, .ref a11, .int 0, .int (-1), .int 0, .int 0, .int 0, .int 0, .int 0]))] (fun v w' => (v = some (.int (-1)) ∧ x0.toInt < 0 ∧ w' = []) ∨ (v = some (.int (-1)) ∧ 0 ≤ x0.toInt ∧ 0 < x0.toInt ∧ w' = []) ∨ (v = some (.int x0) ∧ 0 ≤ x0.toInt ∧ x0.toInt ≤ 0 ∧ w' = [])) := by
  refine mp_met false (by decide) (by decide) (Nat.le_of_ble_eq_true rfl) (fun X hF hQ => ?_)
  have hF : mp_F E X (RX9, cX9_end, 2, (0, 0, 0, 0), (some FieldType.int), false) := hF
  show mp_W E X 2 0 [(0, .ref a0), (1, .int x0)] [] [(a0, .inr (9, [.ref a1, .ref a2, .ref a3, .ref a4, .ref a5, .ref a6, .ref a7, .ref a8, .ref a9])), (a1, .inr (3, [.ref a10, .int 0, .ref a11, .int 0, .int (-1), .int 0, .int 0, .int 0, .int 0, .int 0]))] 0 0
  refine mp_run hF mp_tabX9_ok [mp_i (.iload_n 1), mp_h (.ifCond .lt 14) [15]] (by decide +kernel) ?_
  refine And.intro (fun c1 => ?_) (fun c1 => ?_)
  · have c1 : x0.toInt < 0 := c1
    show mp_W E X 2 15 [(0, .ref a0), (1, .int x0)] [] [(a0, .inr (9, [.ref a1, .ref a2, .ref a3, .ref a4, .ref a5, .ref a6, .ref a7, .ref a8, .ref a9])), (a1, .inr (3, [.ref a10, .int 0, .ref a11, .int 0, .int (-1), .int 0, .int 0, .int 0, .int 0, .int 0]))] 0 0
    refine mp_run hF mp_tabX9_ok [mp_c (.iconst (-1)) (-1)] (by decide +kernel) ?_
    show mp_W E X 2 16 [(0, .ref a0), (1, .int x0)] [.int (-1)] [(a0, .inr (9, [.ref a1, .ref a2, .ref a3, .ref a4, .ref a5, .ref a6, .ref a7, .ref a8, .ref a9])), (a1, .inr (3, [.ref a10, .int 0, .ref a11, .int 0, .int (-1), .int 0, .int 0, .int 0, .int 0, .int 0]))] 0 0
    exact mp_iret hF hQ rfl rfl (Nat.le_of_ble_eq_true rfl) (Nat.le_of_ble_eq_true rfl) [] (w' := []) rfl rfl (Or.inl ⟨rfl, (by first | omega | decide), rfl⟩) (by decide +kernel)
  · have c1 : 0 ≤ x0.toInt := c1
    show mp_W E X 2 4 [(0, .ref a0), (1, .int x0)] [] [(a0, .inr (9, [.ref a1, .ref a2, .ref a3, .ref a4, .ref a5, .ref a6, .ref a7, .ref a8, .ref a9])), (a1, .inr (3, [.ref a10, .int 0, .ref a11, .int 0, .int (-1), .int 0, .int 0, .int 0, .int 0, .int 0]))] 0 0
    refine mp_run hF mp_tabX9_ok [mp_i (.iload_n 1), mp_i (.aload_n 0), mp_h (.getfield 10) [36, 0], mp_h (.getfield 71) [16, 1], mp_h (.if_icmp .le 5) [17]] (by decide +kernel) ?_
    refine And.intro rfl (And.intro rfl ?_)
    refine And.intro rfl (And.intro rfl ?_)
    refine And.intro (fun c2 => ?_) (fun c2 => ?_)
    · have c2 : x0.toInt ≤ 0 := c2
      show mp_W E X 2 17 [(0, .ref a0), (1, .int x0)] [] [(a0, .inr (9, [.ref a1, .ref a2, .ref a3, .ref a4, .ref a5, .ref a6, .ref a7, .ref a8, .ref a9])), (a1, .inr (3, [.ref a10, .int 0, .ref a11, .int 0, .int (-1), .int 0, .int 0, .int 0, .int 0, .int 0]))] 0 0
      refine mp_run hF mp_tabX9_ok [mp_i (.aload_n 0), mp_h (.getfield 10) [36, 0], mp_i (.iload_n 1), mp_h (.putfield 71) [16, 1]] (by decide +kernel) ?_
      refine And.intro rfl (And.intro rfl ?_)
      refine And.intro rfl (And.intro rfl (And.intro rfl (And.intro rfl (And.intro (Nat.le_of_ble_eq_true rfl) ?_))))
      show mp_W E X 2 25 [(0, .ref a0), (1, .int x0)] [] [(a0, .inr (9, [.ref a1, .ref a2, .ref a3, .ref a4, .ref a5, .ref a6, .ref a7, .ref a8, .ref a9])), (a1, .inr (3, [.ref a10, .int x0, .ref a11, .int 0, .int (-1), .int 0, .int 0, .int 0, .int 0, .int 0]))] 0 0
      refine mp_run hF mp_tabX9_ok [mp_i (.iload_n 1)] (by decide +kernel) ?_
      show mp_W E X 2 26 [(0, .ref a0), (1, .int x0)] [.int x0] [(a0, .inr (9, [.ref a1, .ref a2, .ref a3, .ref a4, .ref a5, .ref a6, .ref a7, .ref a8, .ref a9])), (a1, .inr (3, [.ref a10, .int x0, .ref a11, .int 0, .int (-1), .int 0, .int 0, .int 0, .int 0, .int 0]))] 0 0
      exact mp_iret hF hQ rfl rfl (Nat.le_of_ble_eq_true rfl) (Nat.le_of_ble_eq_true rfl) [] (w' := []) rfl rfl (Or.inr (Or.inr ⟨rfl, (by first | omega | decide), (by first | omega | decide), rfl⟩)) (by decide +kernel)
    · have c2 : 0 < x0.toInt := c2
      show mp_W E X 2 15 [(0, .ref a0), (1, .int x0)] [] [(a0, .inr (9, [.ref a1, .ref a2, .ref a3, .ref a4, .ref a5, .ref a6, .ref a7, .ref a8, .ref a9])), (a1, .inr (3, [.ref a10, .int 0, .ref a11, .int 0, .int (-1), .int 0, .int 0, .int 0, .int 0, .int 0]))] 0 0
      refine mp_run hF mp_tabX9_ok [mp_c (.iconst (-1)) (-1)] (by decide +kernel) ?_
      show mp_W E X 2 16 [(0, .ref a0), (1, .int x0)] [.int (-1)] [(a0, .inr (9, [.ref a1, .ref a2, .ref a3, .ref a4, .ref a5, .ref a6, .ref a7, .ref a8, .ref a9])), (a1, .inr (3, [.ref a10, .int 0, .ref a11, .int 0, .int (-1), .int 0, .int 0, .int 0, .int 0, .int 0]))] 0 0
      exact mp_iret hF hQ rfl rfl (Nat.le_of_ble_eq_true rfl) (Nat.le_of_ble_eq_true rfl) [] (w' := []) rfl rfl (Or.inr (Or.inl ⟨rfl, (by first | omega | decide), (by first | omega | decide), rfl⟩)) (by decide +kernel)
set_option maxHeartbeats 4000000 in
set_option maxRecDepth 100000 in
theorem aX10_in_13 (E : mp_E) (x0 : Int64) : mp_Ct E yX10_in cX10_in 6 (some FieldType.boolean) 0 0 0 0 [.long x0, .long 0, .long 0] [] (fun v w' => (v = some (.int 0) ∧ x0.toInt < 0 ∧ w' = []) ∨ (v = some (.int 0) ∧ 0 ≤ x0.toInt ∧ 0 < x0.toInt ∧ w' = []) ∨ (v = some (.int 1) ∧ 0 ≤ x0.toInt ∧ x0.toInt ≤ 0 ∧ w' = [])) := by
  refine mp_met false (by decide) (by decide) (Nat.le_of_ble_eq_true rfl) (fun X hF hQ => ?_)
  have hF : mp_F E X (RX10, cX10_in, 6, (0, 0, 0, 0), (some FieldType.boolean), false) := hF
  show mp_W E X 6 0 [(0, .long x0), (2, .long 0), (4, .long 0)] [] [] 0 0
  refine mp_run hF mp_tabX10_ok [mp_i (.lload_n 0), mp_i (.lload_n 2), mp_i .lcmp, mp_h (.ifCond .lt 14) [17]] (by decide +kernel) ?_
  intro z1 h2
  refine And.intro (fun c3 => ?_) (fun c3 => ?_)
  · have c3 : x0.toInt < 0 := mp_lc_lt h2 c3
    show mp_W E X 6 17 [(0, .long x0), (2, .long 0), (4, .long 0)] [] [] 0 0
    refine mp_run hF mp_tabX10_ok [mp_c (.iconst 0) 0] (by decide +kernel) ?_
    show mp_W E X 6 18 [(0, .long x0), (2, .long 0), (4, .long 0)] [.int 0] [] 0 0
    exact mp_iret hF hQ rfl (by decide) (Nat.le_of_ble_eq_true rfl) (Nat.le_of_ble_eq_true rfl) [] (w' := []) rfl rfl (Or.inl ⟨rfl, (by first | omega | decide), rfl⟩) (by decide +kernel)
  · have c3 : 0 ≤ x0.toInt := mp_lc_ge h2 c3
    show mp_W E X 6 6 [(0, .long x0), (2, .long 0), (4, .long 0)] [] [] 0 0
    refine mp_run hF mp_tabX10_ok [mp_i (.lload_n 0), mp_i (.lload 4), mp_i .lcmp, mp_h (.ifCond .gt 7) [17]] (by decide +kernel) ?_
    intro z4 h5
    refine And.intro (fun c6 => ?_) (fun c6 => ?_)
    · have c6 : 0 < x0.toInt := mp_lc_gt h5 c6
      show mp_W E X 6 17 [(0, .long x0), (2, .long 0), (4, .long 0)] [] [] 0 0
      refine mp_run hF mp_tabX10_ok [mp_c (.iconst 0) 0] (by decide +kernel) ?_
      show mp_W E X 6 18 [(0, .long x0), (2, .long 0), (4, .long 0)] [.int 0] [] 0 0
      exact mp_iret hF hQ rfl (by decide) (Nat.le_of_ble_eq_true rfl) (Nat.le_of_ble_eq_true rfl) [] (w' := []) rfl rfl (Or.inr (Or.inl ⟨rfl, (by first | omega | decide), (by first | omega | decide), rfl⟩)) (by decide +kernel)
    · have c6 : x0.toInt ≤ 0 := mp_lc_le h5 c6
      show mp_W E X 6 13 [(0, .long x0), (2, .long 0), (4, .long 0)] [] [] 0 0
      refine mp_run hF mp_tabX10_ok [mp_c (.iconst 1) 1, mp_h (.goto 4) [18]] (by decide +kernel) ?_
      show mp_W E X 6 18 [(0, .long x0), (2, .long 0), (4, .long 0)] [.int 1] [] 0 0
      exact mp_iret hF hQ rfl (by decide) (Nat.le_of_ble_eq_true rfl) (Nat.le_of_ble_eq_true rfl) [] (w' := []) rfl rfl (Or.inr (Or.inr ⟨rfl, (by first | omega | decide), (by first | omega | decide), rfl⟩)) (by decide +kernel)
set_option maxHeartbeats 4000000 in
set_option maxRecDepth 100000 in
theorem aX10_end_14 (E : mp_E) (a0 a1 a2 a3 a4 a5 a6 a7 a8 a9 a10 a11 a12 a13 a14 a15 a16 a17 a18 a19 a20 a21 a22 a23 a24 a25 : Nat) (x0 : Int32) : mp_Ct E yX10_end cX10_end 2 (some FieldType.int) 1 0 0 25 [.ref a0, .int x0] [(a0, .inr (10, [.int 0, .ref a1, .ref a2, .ref a3, .ref a4, .ref a5, .int 0, .int 0, .int 0, .int 0, .int 0, .long 0, .int 0, .int 0, .int 0, .int (-1), .ref a6, .ref a7, .ref a8, .ref a9, .ref a10, .ref a11, .ref a12, .ref a13, .int 0, .ref a14, .ref a15, .ref a16, .ref a17, .int 0, .int 0, .int 0, .ref a18, .ref a19, .int 0, .int 0, .ref a20, .ref a21, .ref a22, .int 0, .int 0, .int 0, .int 0, .ref a23, .ref a24, .ref a25, .int 0]))] (fun v w' => (v = some (.int (-1)) ∧ x0.toInt < 0 ∧ w' = []) ∨ (v = some (.int (-1)) ∧ 0 ≤ x0.toInt ∧ 0 < x0.toInt ∧ w' = []) ∨ (v = some (.int x0) ∧ 0 ≤ x0.toInt ∧ x0.toInt ≤ 0 ∧ w' = [])) := by
  refine mp_met false (by decide) (by decide) (Nat.le_of_ble_eq_true rfl) (fun X hF hQ => ?_)
  have hF : mp_F E X (RX10, cX10_end, 2, (1, 0, 0, 25), (some FieldType.int), false) := hF
  show mp_W E X 2 0 [(0, .ref a0), (1, .int x0)] [] [(a0, .inr (10, [.int 0, .ref a1, .ref a2, .ref a3, .ref a4, .ref a5, .int 0, .int 0, .int 0, .int 0, .int 0, .long 0, .int 0, .int 0, .int 0, .int (-1), .ref a6, .ref a7, .ref a8, .ref a9, .ref a10, .ref a11, .ref a12, .ref a13, .int 0, .ref a14, .ref a15, .ref a16, .ref a17, .int 0, .int 0, .int 0, .ref a18, .ref a19, .int 0, .int 0, .ref a20, .ref a21, .ref a22, .int 0, .int 0, .int 0, .int 0, .ref a23, .ref a24, .ref a25, .int 0]))] 0 0
  refine mp_run hF mp_tabX10_ok [mp_i (.aload_n 0), mp_c (.iconst 0) 0, mp_h (.putfield 92) [0, 0]] (by decide +kernel) ?_
  refine And.intro rfl (And.intro rfl (And.intro rfl (And.intro rfl (And.intro (Nat.le_of_ble_eq_true rfl) ?_))))
  show mp_W E X 2 5 [(0, .ref a0), (1, .int x0)] [] [(a0, .inr (10, [.int 0, .ref a1, .ref a2, .ref a3, .ref a4, .ref a5, .int 0, .int 0, .int 0, .int 0, .int 0, .long 0, .int 0, .int 0, .int 0, .int (-1), .ref a6, .ref a7, .ref a8, .ref a9, .ref a10, .ref a11, .ref a12, .ref a13, .int 0, .ref a14, .ref a15, .ref a16, .ref a17, .int 0, .int 0, .int 0, .ref a18, .ref a19, .int 0, .int 0, .ref a20, .ref a21, .ref a22, .int 0, .int 0, .int 0, .int 0, .ref a23, .ref a24, .ref a25, .int 0]))] 0 0
  refine mp_run hF mp_tabX10_ok [mp_i (.iload_n 1), mp_i .i2l, mp_cl (.lconst 0) 0, mp_i (.aload_n 0), mp_h (.getfield 109) [6, 0], mp_i .i2l] (by decide +kernel) ?_
  intro z1 h2
  have e3 : z1.toInt = x0.toInt := mp_i2l h2
  refine And.intro rfl (And.intro rfl ?_)
  intro z4 h5
  obtain rfl : z4 = 0 := h5.trans (by decide)
  show mp_W E X 2 13 [(0, .ref a0), (1, .int x0)] [.long 0, .long 0, .long z1] [(a0, .inr (10, [.int 0, .ref a1, .ref a2, .ref a3, .ref a4, .ref a5, .int 0, .int 0, .int 0, .int 0, .int 0, .long 0, .int 0, .int 0, .int 0, .int (-1), .ref a6, .ref a7, .ref a8, .ref a9, .ref a10, .ref a11, .ref a12, .ref a13, .int 0, .ref a14, .ref a15, .ref a16, .ref a17, .int 0, .int 0, .int 0, .ref a18, .ref a19, .int 0, .int 0, .ref a20, .ref a21, .ref a22, .int 0, .int 0, .int 0, .int 0, .ref a23, .ref a24, .ref a25, .int 0]))] 0 0
  refine mp_callS hF (As := [.long z1, .long 0, .long 0]) (rest := []) (wr := [(a0, .inr (10, [.int 0, .ref a1, .ref a2, .ref a3, .ref a4, .ref a5, .int 0, .int 0, .int 0, .int 0, .int 0, .long 0, .int 0, .int 0, .int 0, .int (-1), .ref a6, .ref a7, .ref a8, .ref a9, .ref a10, .ref a11, .ref a12, .ref a13, .int 0, .ref a14, .ref a15, .ref a16, .ref a17, .int 0, .int 0, .int 0, .ref a18, .ref a19, .int 0, .int 0, .ref a20, .ref a21, .ref a22, .int 0, .int 0, .int 0, .int 0, .ref a23, .ref a24, .ref a25, .int 0]))]) (aX10_in_13 E z1) mp_lkX10_97 [] [0] rfl rfl rfl rfl rfl ⟨(Nat.le_of_ble_eq_true rfl), (Nat.le_of_ble_eq_true rfl), (Nat.le_of_ble_eq_true rfl), (Nat.le_of_ble_eq_true rfl)⟩ (Nat.le_of_ble_eq_true rfl) (by decide +kernel) (fun v6 w7 h8 => ?_)
  rcases h8 with ⟨rfl, c9, rfl⟩ | ⟨rfl, c10, c11, rfl⟩ | ⟨rfl, c12, c13, rfl⟩
  · skip
    have c9 : z1.toInt < 0 := c9
    show mp_W E X 2 16 [(0, .ref a0), (1, .int x0)] [.int 0] [(a0, .inr (10, [.int 0, .ref a1, .ref a2, .ref a3, .ref a4, .ref a5, .int 0, .int 0, .int 0, .int 0, .int 0, .long 0, .int 0, .int 0, .int 0, .int (-1), .ref a6, .ref a7, .ref a8, .ref a9, .ref a10, .ref a11, .ref a12, .ref a13, .int 0, .ref a14, .ref a15, .ref a16, .ref a17, .int 0, .int 0, .int 0, .ref a18, .ref a19, .int 0, .int 0, .ref a20, .ref a21, .ref a22, .int 0, .int 0, .int 0, .int 0, .ref a23, .ref a24, .ref a25, .int 0]))] 0 0
    refine mp_run hF mp_tabX10_ok [mp_h (.ifCond .ne 5) [21]] (by decide +kernel) ?_
    refine And.intro (fun c14 => absurd c14 (by decide)) (fun _ => ?_)
    show mp_W E X 2 19 [(0, .ref a0), (1, .int x0)] [] [(a0, .inr (10, [.int 0, .ref a1, .ref a2, .ref a3, .ref a4, .ref a5, .int 0, .int 0, .int 0, .int 0, .int 0, .long 0, .int 0, .int 0, .int 0, .int (-1), .ref a6, .ref a7, .ref a8, .ref a9, .ref a10, .ref a11, .ref a12, .ref a13, .int 0, .ref a14, .ref a15, .ref a16, .ref a17, .int 0, .int 0, .int 0, .ref a18, .ref a19, .int 0, .int 0, .ref a20, .ref a21, .ref a22, .int 0, .int 0, .int 0, .int 0, .ref a23, .ref a24, .ref a25, .int 0]))] 0 0
    refine mp_run hF mp_tabX10_ok [mp_c (.iconst (-1)) (-1)] (by decide +kernel) ?_
    show mp_W E X 2 20 [(0, .ref a0), (1, .int x0)] [.int (-1)] [(a0, .inr (10, [.int 0, .ref a1, .ref a2, .ref a3, .ref a4, .ref a5, .int 0, .int 0, .int 0, .int 0, .int 0, .long 0, .int 0, .int 0, .int 0, .int (-1), .ref a6, .ref a7, .ref a8, .ref a9, .ref a10, .ref a11, .ref a12, .ref a13, .int 0, .ref a14, .ref a15, .ref a16, .ref a17, .int 0, .int 0, .int 0, .ref a18, .ref a19, .int 0, .int 0, .ref a20, .ref a21, .ref a22, .int 0, .int 0, .int 0, .int 0, .ref a23, .ref a24, .ref a25, .int 0]))] 0 0
    exact mp_iret hF hQ rfl rfl (Nat.le_of_ble_eq_true rfl) (Nat.le_of_ble_eq_true rfl) [] (w' := []) rfl rfl (Or.inl ⟨rfl, (by first | omega | decide), rfl⟩) (by decide +kernel)
  · skip
    have c10 : 0 ≤ z1.toInt := c10
    have c11 : 0 < z1.toInt := c11
    show mp_W E X 2 16 [(0, .ref a0), (1, .int x0)] [.int 0] [(a0, .inr (10, [.int 0, .ref a1, .ref a2, .ref a3, .ref a4, .ref a5, .int 0, .int 0, .int 0, .int 0, .int 0, .long 0, .int 0, .int 0, .int 0, .int (-1), .ref a6, .ref a7, .ref a8, .ref a9, .ref a10, .ref a11, .ref a12, .ref a13, .int 0, .ref a14, .ref a15, .ref a16, .ref a17, .int 0, .int 0, .int 0, .ref a18, .ref a19, .int 0, .int 0, .ref a20, .ref a21, .ref a22, .int 0, .int 0, .int 0, .int 0, .ref a23, .ref a24, .ref a25, .int 0]))] 0 0
    refine mp_run hF mp_tabX10_ok [mp_h (.ifCond .ne 5) [21]] (by decide +kernel) ?_
    refine And.intro (fun c15 => absurd c15 (by decide)) (fun _ => ?_)
    show mp_W E X 2 19 [(0, .ref a0), (1, .int x0)] [] [(a0, .inr (10, [.int 0, .ref a1, .ref a2, .ref a3, .ref a4, .ref a5, .int 0, .int 0, .int 0, .int 0, .int 0, .long 0, .int 0, .int 0, .int 0, .int (-1), .ref a6, .ref a7, .ref a8, .ref a9, .ref a10, .ref a11, .ref a12, .ref a13, .int 0, .ref a14, .ref a15, .ref a16, .ref a17, .int 0, .int 0, .int 0, .ref a18, .ref a19, .int 0, .int 0, .ref a20, .ref a21, .ref a22, .int 0, .int 0, .int 0, .int 0, .ref a23, .ref a24, .ref a25, .int 0]))] 0 0
    refine mp_run hF mp_tabX10_ok [mp_c (.iconst (-1)) (-1)] (by decide +kernel) ?_
    show mp_W E X 2 20 [(0, .ref a0), (1, .int x0)] [.int (-1)] [(a0, .inr (10, [.int 0, .ref a1, .ref a2, .ref a3, .ref a4, .ref a5, .int 0, .int 0, .int 0, .int 0, .int 0, .long 0, .int 0, .int 0, .int 0, .int (-1), .ref a6, .ref a7, .ref a8, .ref a9, .ref a10, .ref a11, .ref a12, .ref a13, .int 0, .ref a14, .ref a15, .ref a16, .ref a17, .int 0, .int 0, .int 0, .ref a18, .ref a19, .int 0, .int 0, .ref a20, .ref a21, .ref a22, .int 0, .int 0, .int 0, .int 0, .ref a23, .ref a24, .ref a25, .int 0]))] 0 0
    exact mp_iret hF hQ rfl rfl (Nat.le_of_ble_eq_true rfl) (Nat.le_of_ble_eq_true rfl) [] (w' := []) rfl rfl (Or.inr (Or.inl ⟨rfl, (by first | omega | decide), (by first | omega | decide), rfl⟩)) (by decide +kernel)
  · skip
    have c12 : 0 ≤ z1.toInt := c12
    have c13 : z1.toInt ≤ 0 := c13
    show mp_W E X 2 16 [(0, .ref a0), (1, .int x0)] [.int 1] [(a0, .inr (10, [.int 0, .ref a1, .ref a2, .ref a3, .ref a4, .ref a5, .int 0, .int 0, .int 0, .int 0, .int 0, .long 0, .int 0, .int 0, .int 0, .int (-1), .ref a6, .ref a7, .ref a8, .ref a9, .ref a10, .ref a11, .ref a12, .ref a13, .int 0, .ref a14, .ref a15, .ref a16, .ref a17, .int 0, .int 0, .int 0, .ref a18, .ref a19, .int 0, .int 0, .ref a20, .ref a21, .ref a22, .int 0, .int 0, .int 0, .int 0, .ref a23, .ref a24, .ref a25, .int 0]))] 0 0
    refine mp_run hF mp_tabX10_ok [mp_h (.ifCond .ne 5) [21]] (by decide +kernel) ?_
    refine And.intro (fun _ => ?_) (fun c16 => absurd c16 (by decide))
    show mp_W E X 2 21 [(0, .ref a0), (1, .int x0)] [] [(a0, .inr (10, [.int 0, .ref a1, .ref a2, .ref a3, .ref a4, .ref a5, .int 0, .int 0, .int 0, .int 0, .int 0, .long 0, .int 0, .int 0, .int 0, .int (-1), .ref a6, .ref a7, .ref a8, .ref a9, .ref a10, .ref a11, .ref a12, .ref a13, .int 0, .ref a14, .ref a15, .ref a16, .ref a17, .int 0, .int 0, .int 0, .ref a18, .ref a19, .int 0, .int 0, .ref a20, .ref a21, .ref a22, .int 0, .int 0, .int 0, .int 0, .ref a23, .ref a24, .ref a25, .int 0]))] 0 0
    refine mp_run hF mp_tabX10_ok [mp_i (.aload_n 0), mp_i (.iload_n 1), mp_h (.putfield 109) [6, 0]] (by decide +kernel) ?_
    refine And.intro rfl (And.intro rfl (And.intro rfl (And.intro rfl (And.intro (Nat.le_of_ble_eq_true rfl) ?_))))
    show mp_W E X 2 26 [(0, .ref a0), (1, .int x0)] [] [(a0, .inr (10, [.int 0, .ref a1, .ref a2, .ref a3, .ref a4, .ref a5, .int x0, .int 0, .int 0, .int 0, .int 0, .long 0, .int 0, .int 0, .int 0, .int (-1), .ref a6, .ref a7, .ref a8, .ref a9, .ref a10, .ref a11, .ref a12, .ref a13, .int 0, .ref a14, .ref a15, .ref a16, .ref a17, .int 0, .int 0, .int 0, .ref a18, .ref a19, .int 0, .int 0, .ref a20, .ref a21, .ref a22, .int 0, .int 0, .int 0, .int 0, .ref a23, .ref a24, .ref a25, .int 0]))] 0 0
    refine mp_run hF mp_tabX10_ok [mp_i (.iload_n 1)] (by decide +kernel) ?_
    show mp_W E X 2 27 [(0, .ref a0), (1, .int x0)] [.int x0] [(a0, .inr (10, [.int 0, .ref a1, .ref a2, .ref a3, .ref a4, .ref a5, .int x0, .int 0, .int 0, .int 0, .int 0, .long 0, .int 0, .int 0, .int 0, .int (-1), .ref a6, .ref a7, .ref a8, .ref a9, .ref a10, .ref a11, .ref a12, .ref a13, .int 0, .ref a14, .ref a15, .ref a16, .ref a17, .int 0, .int 0, .int 0, .ref a18, .ref a19, .int 0, .int 0, .ref a20, .ref a21, .ref a22, .int 0, .int 0, .int 0, .int 0, .ref a23, .ref a24, .ref a25, .int 0]))] 0 0
    exact mp_iret hF hQ rfl rfl (Nat.le_of_ble_eq_true rfl) (Nat.le_of_ble_eq_true rfl) [] (w' := []) rfl rfl (Or.inr (Or.inr ⟨rfl, (by first | omega | decide), (by first | omega | decide), rfl⟩)) (by decide +kernel)
set_option maxHeartbeats 4000000 in
set_option maxRecDepth 100000 in
theorem aJ7_fill_53178_15 (E : mp_E) (a0 : Nat) : mp_Ct E yJ7_fill_53178 cJ7_fill_53178 4 none 0 0 0 0 [.ref a0, .int 0] [(a0, .inl (E.2.2 0, 36, .inl (fun _ => 0)))] (fun v w' => ∃ h0 : Nat → Int32, v = none ∧ w' = [(a0, .inl (E.2.2 0, 36, .inl h0))]) := by
  refine mp_met false (by decide) (by decide) (Nat.le_of_ble_eq_true rfl) (fun X hF hQ => ?_)
  have hF : mp_F E X (RJ7, cJ7_fill_53178, 4, (0, 0, 0, 0), none, false) := hF
  show mp_W E X 4 0 [(0, .ref a0), (1, .int 0)] [] [(a0, .inl (E.2.2 0, 36, .inl (fun _ => 0)))] 0 0
  refine mp_run hF mp_tab0_ok [mp_c (.iconst 0) 0, mp_i (.istore_n 2), mp_i (.aload_n 0), mp_h .arraylength [0, 0], mp_i (.istore_n 3)] (by decide +kernel) ?_
  refine And.intro rfl (And.intro rfl (And.intro (by decide) ?_))
  intro z1 h2
  obtain rfl : z1 = 36 := h2.trans (by decide)
  show mp_W E X 4 5 [(3, .int 36), (2, .int 0), (0, .ref a0), (1, .int 0)] [] [(a0, .inl (E.2.2 0, 36, .inl (fun _ => 0)))] 0 0
  have lp3 : ∀ (d4 : Nat) (i6 : Int32) (g7 : Nat → Int32), 0 ≤ i6.toInt → i6.toInt + d4 = 36 → mp_W E X 4 5 [(3, .int 36), (2, .int i6), (0, .ref a0), (1, .int 0)] [] [(a0, .inl (E.2.2 0, 36, .inl g7))] 0 0 := by
    intro d4
    induction d4 with
    | zero =>
      intro i6 g7 h8 h9
      refine mp_run hF mp_tab0_ok [mp_i (.iload_n 2), mp_i (.iload_n 3), mp_h (.if_icmp .ge 13) [20]] (by decide +kernel) ?_
      refine And.intro (fun c10 => ?_) (fun c10 => ?_)
      · have c10 : 36 ≤ i6.toInt := c10
        show mp_W E X 4 20 [(3, .int 36), (2, .int i6), (0, .ref a0), (1, .int 0)] [] [(a0, .inl (E.2.2 0, 36, .inl g7))] 0 0
        exact mp_vret hF hQ rfl (Nat.le_of_ble_eq_true rfl) (Nat.le_of_ble_eq_true rfl) [0] (w' := [(a0, .inl (E.2.2 0, 36, .inl g7))]) rfl rfl ⟨g7, rfl, rfl⟩ (by decide +kernel)
      · have c10 : i6.toInt < 36 := c10
        exfalso; omega
    | succ d4 ih5 =>
      intro i6 g7 h8 h9
      refine mp_run hF mp_tab0_ok [mp_i (.iload_n 2), mp_i (.iload_n 3), mp_h (.if_icmp .ge 13) [20]] (by decide +kernel) ?_
      refine And.intro (fun c11 => ?_) (fun c11 => ?_)
      · have c11 : 36 ≤ i6.toInt := c11
        exfalso; omega
      · have c11 : i6.toInt < 36 := c11
        show mp_W E X 4 10 [(3, .int 36), (2, .int i6), (0, .ref a0), (1, .int 0)] [] [(a0, .inl (E.2.2 0, 36, .inl g7))] 0 0
        refine mp_run hF mp_tab0_ok [mp_i (.aload_n 0), mp_i (.iload_n 2), mp_i (.iload_n 1), mp_h .iastore [0]] (by decide +kernel) ?_
        refine And.intro rfl (And.intro rfl (And.intro (vp_in_iff.mpr (by omega)) ?_))
        intro g12 h13
        show mp_W E X 4 14 [(3, .int 36), (2, .int i6), (0, .ref a0), (1, .int 0)] [] [(a0, .inl (E.2.2 0, 36, .inl g12))] 0 0
        refine mp_run hF mp_tab0_ok [mp_c (.iinc 2 1) 1, mp_h (.goto (-12)) [5]] (by decide +kernel) ?_
        intro z14 h15
        have e16 : z14.toInt = i6.toInt + 1 := mp_add (a := i6.toInt) (b := 1) h15 rfl (by decide) (by omega) (by omega)
        show mp_W E X 4 5 [(2, .int z14), (3, .int 36), (0, .ref a0), (1, .int 0)] [] [(a0, .inl (E.2.2 0, 36, .inl g12))] 0 0
        exact mp_sub [1, 0, 2, 3] rfl [0] rfl rfl (ih5 z14 g12 (by omega) (by omega))
  exact mp_sub [0, 1, 2, 3] rfl [0] rfl rfl (lp3 36 0 (fun _ => 0) (by decide) (by decide))
set_option maxHeartbeats 4000000 in
set_option maxRecDepth 100000 in
theorem aJ7_fill_d0a16_16 (E : mp_E) (a0 : Nat) : mp_Ct E yJ7_fill_d0a16 cJ7_fill_d0a16 5 none 0 0 0 0 [.ref a0, .long 0] [(a0, .inl (E.2.2 2, 12, .inr (.inl (fun _ => 0))))] (fun v w' => ∃ h0 : Nat → Int64, v = none ∧ w' = [(a0, .inl (E.2.2 2, 12, .inr (.inl h0)))]) := by
  refine mp_met false (by decide) (by decide) (Nat.le_of_ble_eq_true rfl) (fun X hF hQ => ?_)
  have hF : mp_F E X (RJ7, cJ7_fill_d0a16, 5, (0, 0, 0, 0), none, false) := hF
  show mp_W E X 5 0 [(0, .ref a0), (1, .long 0)] [] [(a0, .inl (E.2.2 2, 12, .inr (.inl (fun _ => 0))))] 0 0
  refine mp_run hF mp_tab0_ok [mp_c (.iconst 0) 0, mp_i (.istore_n 3), mp_i (.aload_n 0), mp_h .arraylength [0, 2], mp_i (.istore 4)] (by decide +kernel) ?_
  refine And.intro rfl (And.intro rfl (And.intro (by decide) ?_))
  intro z1 h2
  obtain rfl : z1 = 12 := h2.trans (by decide)
  show mp_W E X 5 6 [(4, .int 12), (3, .int 0), (0, .ref a0), (1, .long 0)] [] [(a0, .inl (E.2.2 2, 12, .inr (.inl (fun _ => 0))))] 0 0
  have lp3 : ∀ (d4 : Nat) (i6 : Int32) (g7 : Nat → Int64), 0 ≤ i6.toInt → i6.toInt + d4 = 12 → mp_W E X 5 6 [(4, .int 12), (3, .int i6), (0, .ref a0), (1, .long 0)] [] [(a0, .inl (E.2.2 2, 12, .inr (.inl g7)))] 0 0 := by
    intro d4
    induction d4 with
    | zero =>
      intro i6 g7 h8 h9
      refine mp_run hF mp_tab0_ok [mp_i (.iload_n 3), mp_i (.iload 4), mp_h (.if_icmp .ge 13) [22]] (by decide +kernel) ?_
      refine And.intro (fun c10 => ?_) (fun c10 => ?_)
      · have c10 : 12 ≤ i6.toInt := c10
        show mp_W E X 5 22 [(4, .int 12), (3, .int i6), (0, .ref a0), (1, .long 0)] [] [(a0, .inl (E.2.2 2, 12, .inr (.inl g7)))] 0 0
        exact mp_vret hF hQ rfl (Nat.le_of_ble_eq_true rfl) (Nat.le_of_ble_eq_true rfl) [0] (w' := [(a0, .inl (E.2.2 2, 12, .inr (.inl g7)))]) rfl rfl ⟨g7, rfl, rfl⟩ (by decide +kernel)
      · have c10 : i6.toInt < 12 := c10
        exfalso; omega
    | succ d4 ih5 =>
      intro i6 g7 h8 h9
      refine mp_run hF mp_tab0_ok [mp_i (.iload_n 3), mp_i (.iload 4), mp_h (.if_icmp .ge 13) [22]] (by decide +kernel) ?_
      refine And.intro (fun c11 => ?_) (fun c11 => ?_)
      · have c11 : 12 ≤ i6.toInt := c11
        exfalso; omega
      · have c11 : i6.toInt < 12 := c11
        show mp_W E X 5 12 [(4, .int 12), (3, .int i6), (0, .ref a0), (1, .long 0)] [] [(a0, .inl (E.2.2 2, 12, .inr (.inl g7)))] 0 0
        refine mp_run hF mp_tab0_ok [mp_i (.aload_n 0), mp_i (.iload_n 3), mp_i (.lload_n 1), mp_h .lastore [0]] (by decide +kernel) ?_
        refine And.intro rfl (And.intro rfl (And.intro (vp_in_iff.mpr (by omega)) ?_))
        intro g12 h13
        show mp_W E X 5 16 [(4, .int 12), (3, .int i6), (0, .ref a0), (1, .long 0)] [] [(a0, .inl (E.2.2 2, 12, .inr (.inl g12)))] 0 0
        refine mp_run hF mp_tab0_ok [mp_c (.iinc 3 1) 1, mp_h (.goto (-13)) [6]] (by decide +kernel) ?_
        intro z14 h15
        have e16 : z14.toInt = i6.toInt + 1 := mp_add (a := i6.toInt) (b := 1) h15 rfl (by decide) (by omega) (by omega)
        show mp_W E X 5 6 [(3, .int z14), (4, .int 12), (0, .ref a0), (1, .long 0)] [] [(a0, .inl (E.2.2 2, 12, .inr (.inl g12)))] 0 0
        exact mp_sub [1, 0, 2, 3] rfl [0] rfl rfl (ih5 z14 g12 (by omega) (by omega))
  exact mp_sub [0, 1, 2, 3] rfl [0] rfl rfl (lp3 12 0 (fun _ => 0) (by decide) (by decide))
set_option maxHeartbeats 4000000 in
set_option maxRecDepth 100000 in
theorem aX7_clear_17 (E : mp_E) (a0 a1 a2 a3 a4 a5 a6 a7 a8 a9 a10 a11 a12 : Nat) : mp_Ct E yX7_clear cX7_clear 1 none 1 0 0 24 [.ref a0] [(a0, .inr (7, [.int 0, .int 0, .int 0, .int 0, .int 0, .int 0, .ref a1, .ref a2, .ref a3, .ref a4, .ref a5, .ref a6, .ref a7, .ref a8, .ref a9, .ref a10, .ref a11, .ref a12])), (a1, .inl (E.2.2 0, 36, .inl (fun _ => 0))), (a2, .inl (E.2.2 2, 12, .inr (.inl (fun _ => 0))))] (fun v w' => ∃ h0 : Nat → Int32, ∃ h1 : Nat → Int64, v = none ∧ w' = [(a0, .inr (7, [.int 0, .int 0, .int 0, .int 0, .int 0, .int 0, .ref a1, .ref a2, .ref a3, .ref a4, .ref a5, .ref a6, .ref a7, .ref a8, .ref a9, .ref a10, .ref a11, .ref a12])), (a1, .inl (E.2.2 0, 36, .inl h0)), (a2, .inl (E.2.2 2, 12, .inr (.inl h1)))]) := by
  refine mp_met false (by decide) (by decide) (Nat.le_of_ble_eq_true rfl) (fun X hF hQ => ?_)
  have hF : mp_F E X (RX7, cX7_clear, 1, (1, 0, 0, 24), none, false) := hF
  show mp_W E X 1 0 [(0, .ref a0)] [] [(a0, .inr (7, [.int 0, .int 0, .int 0, .int 0, .int 0, .int 0, .ref a1, .ref a2, .ref a3, .ref a4, .ref a5, .ref a6, .ref a7, .ref a8, .ref a9, .ref a10, .ref a11, .ref a12])), (a1, .inl (E.2.2 0, 36, .inl (fun _ => 0))), (a2, .inl (E.2.2 2, 12, .inr (.inl (fun _ => 0))))] 0 0
  refine mp_run hF mp_tabX7_ok [mp_i (.aload_n 0), mp_c (.iconst 0) 0, mp_h (.putfield 49) [0, 0]] (by decide +kernel) ?_
  refine And.intro rfl (And.intro rfl (And.intro rfl (And.intro rfl (And.intro (Nat.le_of_ble_eq_true rfl) ?_))))
  show mp_W E X 1 5 [(0, .ref a0)] [] [(a0, .inr (7, [.int 0, .int 0, .int 0, .int 0, .int 0, .int 0, .ref a1, .ref a2, .ref a3, .ref a4, .ref a5, .ref a6, .ref a7, .ref a8, .ref a9, .ref a10, .ref a11, .ref a12])), (a1, .inl (E.2.2 0, 36, .inl (fun _ => 0))), (a2, .inl (E.2.2 2, 12, .inr (.inl (fun _ => 0))))] 0 0
  refine mp_run hF mp_tabX7_ok [mp_i (.aload_n 0), mp_c (.iconst 0) 0, mp_h (.putfield 53) [1, 0]] (by decide +kernel) ?_
  refine And.intro rfl (And.intro rfl (And.intro rfl (And.intro rfl (And.intro (Nat.le_of_ble_eq_true rfl) ?_))))
  show mp_W E X 1 10 [(0, .ref a0)] [] [(a0, .inr (7, [.int 0, .int 0, .int 0, .int 0, .int 0, .int 0, .ref a1, .ref a2, .ref a3, .ref a4, .ref a5, .ref a6, .ref a7, .ref a8, .ref a9, .ref a10, .ref a11, .ref a12])), (a1, .inl (E.2.2 0, 36, .inl (fun _ => 0))), (a2, .inl (E.2.2 2, 12, .inr (.inl (fun _ => 0))))] 0 0
  refine mp_run hF mp_tabX7_ok [mp_i (.aload_n 0), mp_c (.iconst 0) 0, mp_h (.putfield 56) [2, 0]] (by decide +kernel) ?_
  refine And.intro rfl (And.intro rfl (And.intro rfl (And.intro rfl (And.intro (Nat.le_of_ble_eq_true rfl) ?_))))
  show mp_W E X 1 15 [(0, .ref a0)] [] [(a0, .inr (7, [.int 0, .int 0, .int 0, .int 0, .int 0, .int 0, .ref a1, .ref a2, .ref a3, .ref a4, .ref a5, .ref a6, .ref a7, .ref a8, .ref a9, .ref a10, .ref a11, .ref a12])), (a1, .inl (E.2.2 0, 36, .inl (fun _ => 0))), (a2, .inl (E.2.2 2, 12, .inr (.inl (fun _ => 0))))] 0 0
  refine mp_run hF mp_tabX7_ok [mp_i (.aload_n 0), mp_c (.iconst 0) 0, mp_h (.putfield 59) [3, 0]] (by decide +kernel) ?_
  refine And.intro rfl (And.intro rfl (And.intro rfl (And.intro rfl (And.intro (Nat.le_of_ble_eq_true rfl) ?_))))
  show mp_W E X 1 20 [(0, .ref a0)] [] [(a0, .inr (7, [.int 0, .int 0, .int 0, .int 0, .int 0, .int 0, .ref a1, .ref a2, .ref a3, .ref a4, .ref a5, .ref a6, .ref a7, .ref a8, .ref a9, .ref a10, .ref a11, .ref a12])), (a1, .inl (E.2.2 0, 36, .inl (fun _ => 0))), (a2, .inl (E.2.2 2, 12, .inr (.inl (fun _ => 0))))] 0 0
  refine mp_run hF mp_tabX7_ok [mp_i (.aload_n 0), mp_c (.iconst 0) 0, mp_h (.putfield 62) [4, 0]] (by decide +kernel) ?_
  refine And.intro rfl (And.intro rfl (And.intro rfl (And.intro rfl (And.intro (Nat.le_of_ble_eq_true rfl) ?_))))
  show mp_W E X 1 25 [(0, .ref a0)] [] [(a0, .inr (7, [.int 0, .int 0, .int 0, .int 0, .int 0, .int 0, .ref a1, .ref a2, .ref a3, .ref a4, .ref a5, .ref a6, .ref a7, .ref a8, .ref a9, .ref a10, .ref a11, .ref a12])), (a1, .inl (E.2.2 0, 36, .inl (fun _ => 0))), (a2, .inl (E.2.2 2, 12, .inr (.inl (fun _ => 0))))] 0 0
  refine mp_run hF mp_tabX7_ok [mp_i (.aload_n 0), mp_c (.iconst 0) 0, mp_h (.putfield 65) [5, 0]] (by decide +kernel) ?_
  refine And.intro rfl (And.intro rfl (And.intro rfl (And.intro rfl (And.intro (Nat.le_of_ble_eq_true rfl) ?_))))
  show mp_W E X 1 30 [(0, .ref a0)] [] [(a0, .inr (7, [.int 0, .int 0, .int 0, .int 0, .int 0, .int 0, .ref a1, .ref a2, .ref a3, .ref a4, .ref a5, .ref a6, .ref a7, .ref a8, .ref a9, .ref a10, .ref a11, .ref a12])), (a1, .inl (E.2.2 0, 36, .inl (fun _ => 0))), (a2, .inl (E.2.2 2, 12, .inr (.inl (fun _ => 0))))] 0 0
  refine mp_run hF mp_tabX7_ok [mp_i (.aload_n 0), mp_h (.getfield 9) [6, 0], mp_c (.iconst 0) 0] (by decide +kernel) ?_
  refine And.intro rfl (And.intro rfl ?_)
  show mp_W E X 1 35 [(0, .ref a0)] [.int 0, .ref a1] [(a0, .inr (7, [.int 0, .int 0, .int 0, .int 0, .int 0, .int 0, .ref a1, .ref a2, .ref a3, .ref a4, .ref a5, .ref a6, .ref a7, .ref a8, .ref a9, .ref a10, .ref a11, .ref a12])), (a1, .inl (E.2.2 0, 36, .inl (fun _ => 0))), (a2, .inl (E.2.2 2, 12, .inr (.inl (fun _ => 0))))] 0 0
  refine mp_callS hF (As := [.ref a1, .int 0]) (rest := []) (wr := [(a0, .inr (7, [.int 0, .int 0, .int 0, .int 0, .int 0, .int 0, .ref a1, .ref a2, .ref a3, .ref a4, .ref a5, .ref a6, .ref a7, .ref a8, .ref a9, .ref a10, .ref a11, .ref a12])), (a2, .inl (E.2.2 2, 12, .inr (.inl (fun _ => 0))))]) (aJ7_fill_53178_15 E a1) mp_lkX7_68 [1] [0, 2] rfl rfl rfl rfl rfl ⟨(Nat.le_of_ble_eq_true rfl), (Nat.le_of_ble_eq_true rfl), (Nat.le_of_ble_eq_true rfl), (Nat.le_of_ble_eq_true rfl)⟩ (Nat.le_of_ble_eq_true rfl) (by decide +kernel) (fun v1 w2 h3 => ?_)
  obtain ⟨g4, rfl, rfl⟩ := h3
  show mp_W E X 1 38 [(0, .ref a0)] [] [(a0, .inr (7, [.int 0, .int 0, .int 0, .int 0, .int 0, .int 0, .ref a1, .ref a2, .ref a3, .ref a4, .ref a5, .ref a6, .ref a7, .ref a8, .ref a9, .ref a10, .ref a11, .ref a12])), (a2, .inl (E.2.2 2, 12, .inr (.inl (fun _ => 0)))), (a1, .inl (E.2.2 0, 36, .inl g4))] 0 0
  refine mp_run hF mp_tabX7_ok [mp_i (.aload_n 0), mp_h (.getfield 15) [7, 0], mp_cl (.lconst 0) 0] (by decide +kernel) ?_
  refine And.intro rfl (And.intro rfl ?_)
  show mp_W E X 1 43 [(0, .ref a0)] [.long 0, .ref a2] [(a0, .inr (7, [.int 0, .int 0, .int 0, .int 0, .int 0, .int 0, .ref a1, .ref a2, .ref a3, .ref a4, .ref a5, .ref a6, .ref a7, .ref a8, .ref a9, .ref a10, .ref a11, .ref a12])), (a2, .inl (E.2.2 2, 12, .inr (.inl (fun _ => 0)))), (a1, .inl (E.2.2 0, 36, .inl g4))] 0 0
  refine mp_callS hF (As := [.ref a2, .long 0]) (rest := []) (wr := [(a0, .inr (7, [.int 0, .int 0, .int 0, .int 0, .int 0, .int 0, .ref a1, .ref a2, .ref a3, .ref a4, .ref a5, .ref a6, .ref a7, .ref a8, .ref a9, .ref a10, .ref a11, .ref a12])), (a1, .inl (E.2.2 0, 36, .inl g4))]) (aJ7_fill_d0a16_16 E a2) mp_lkX7_74 [1] [0, 2] rfl rfl rfl rfl rfl ⟨(Nat.le_of_ble_eq_true rfl), (Nat.le_of_ble_eq_true rfl), (Nat.le_of_ble_eq_true rfl), (Nat.le_of_ble_eq_true rfl)⟩ (Nat.le_of_ble_eq_true rfl) (by decide +kernel) (fun v5 w6 h7 => ?_)
  obtain ⟨g8, rfl, rfl⟩ := h7
  show mp_W E X 1 46 [(0, .ref a0)] [] [(a0, .inr (7, [.int 0, .int 0, .int 0, .int 0, .int 0, .int 0, .ref a1, .ref a2, .ref a3, .ref a4, .ref a5, .ref a6, .ref a7, .ref a8, .ref a9, .ref a10, .ref a11, .ref a12])), (a1, .inl (E.2.2 0, 36, .inl g4)), (a2, .inl (E.2.2 2, 12, .inr (.inl g8)))] 0 0
  exact mp_vret hF hQ rfl (Nat.le_of_ble_eq_true rfl) (Nat.le_of_ble_eq_true rfl) [0, 1, 2] (w' := [(a0, .inr (7, [.int 0, .int 0, .int 0, .int 0, .int 0, .int 0, .ref a1, .ref a2, .ref a3, .ref a4, .ref a5, .ref a6, .ref a7, .ref a8, .ref a9, .ref a10, .ref a11, .ref a12])), (a1, .inl (E.2.2 0, 36, .inl g4)), (a2, .inl (E.2.2 2, 12, .inr (.inl g8)))]) rfl rfl ⟨g4, g8, rfl, rfl⟩ (by decide +kernel)
set_option maxHeartbeats 4000000 in
set_option maxRecDepth 100000 in
theorem aX3_step_18 (E : mp_E) (a0 a1 a2 : Nat) : mp_Ct E yX3_step cX3_step 1 none 0 0 0 0 [.ref a0] [(a0, .inr (3, [.ref a1, .int 0, .ref a2, .int 0, .int (-1), .int 0, .int 0, .int 0, .int 0, .int 0]))] (fun v w' => v = none ∧ w' = [(a0, .inr (3, [.ref a1, .int 0, .ref a2, .int 0, .int (-1), .int 0, .int 0, .int 0, .int 0, .int 0]))]) := by
  refine mp_met false (by decide) (by decide) (Nat.le_of_ble_eq_true rfl) (fun X hF hQ => ?_)
  have hF : mp_F E X (RX3, cX3_step, 1, (0, 0, 0, 0), none, false) := hF
  show mp_W E X 1 0 [(0, .ref a0)] [] [(a0, .inr (3, [.ref a1, .int 0, .ref a2, .int 0, .int (-1), .int 0, .int 0, .int 0, .int 0, .int 0]))] 0 0
  refine mp_run hF mp_tabX3_ok [mp_i (.aload_n 0), mp_i (.aload_n 0), mp_h (.getfield 35) [16, 0], mp_h (.putfield 161) [15, 0]] (by decide +kernel) ?_
  refine And.intro rfl (And.intro rfl ?_)
  refine And.intro rfl (And.intro rfl (And.intro rfl (And.intro rfl (And.intro (Nat.le_of_ble_eq_true rfl) ?_))))
  show mp_W E X 1 8 [(0, .ref a0)] [] [(a0, .inr (3, [.ref a1, .int 0, .ref a2, .int 0, .int (-1), .int 0, .int 0, .int 0, .int 0, .int 0]))] 0 0
  refine mp_run hF mp_tabX3_ok [mp_i (.aload_n 0), mp_h (.getfield 161) [15, 0], mp_i (.aload_n 0), mp_h (.getfield 26) [10, 0], mp_h (.if_icmp .ge 44) [60]] (by decide +kernel) ?_
  refine And.intro rfl (And.intro rfl ?_)
  refine And.intro rfl (And.intro rfl ?_)
  refine And.intro (fun _ => ?_) (fun c1 => absurd c1 (by decide))
  show mp_W E X 1 60 [(0, .ref a0)] [] [(a0, .inr (3, [.ref a1, .int 0, .ref a2, .int 0, .int (-1), .int 0, .int 0, .int 0, .int 0, .int 0]))] 0 0
  refine mp_run hF mp_tabX3_ok [mp_i (.aload_n 0), mp_i (.aload_n 0), mp_h (.getfield 161) [15, 0], mp_h (.putfield 35) [16, 0]] (by decide +kernel) ?_
  refine And.intro rfl (And.intro rfl ?_)
  refine And.intro rfl (And.intro rfl (And.intro rfl (And.intro rfl (And.intro (Nat.le_of_ble_eq_true rfl) ?_))))
  show mp_W E X 1 68 [(0, .ref a0)] [] [(a0, .inr (3, [.ref a1, .int 0, .ref a2, .int 0, .int (-1), .int 0, .int 0, .int 0, .int 0, .int 0]))] 0 0
  refine mp_run hF mp_tabX3_ok [mp_i (.aload_n 0), mp_c (.iconst 0) 0, mp_h (.putfield 158) [17, 0]] (by decide +kernel) ?_
  refine And.intro rfl (And.intro rfl (And.intro rfl (And.intro rfl (And.intro (Nat.le_of_ble_eq_true rfl) ?_))))
  show mp_W E X 1 73 [(0, .ref a0)] [] [(a0, .inr (3, [.ref a1, .int 0, .ref a2, .int 0, .int (-1), .int 0, .int 0, .int 0, .int 0, .int 0]))] 0 0
  refine mp_run hF mp_tabX3_ok [mp_i (.aload_n 0), mp_h (.getfield 161) [15, 0], mp_i (.aload_n 0), mp_h (.getfield 26) [10, 0], mp_h (.if_icmp .lt 11) [92]] (by decide +kernel) ?_
  refine And.intro rfl (And.intro rfl ?_)
  refine And.intro rfl (And.intro rfl ?_)
  refine And.intro (fun c2 => absurd c2 (by decide)) (fun _ => ?_)
  show mp_W E X 1 84 [(0, .ref a0)] [] [(a0, .inr (3, [.ref a1, .int 0, .ref a2, .int 0, .int (-1), .int 0, .int 0, .int 0, .int 0, .int 0]))] 0 0
  refine mp_run hF mp_tabX3_ok [mp_i (.aload_n 0), mp_c (.iconst 0) 0, mp_h (.putfield 41) [14, 0]] (by decide +kernel) ?_
  refine And.intro rfl (And.intro rfl (And.intro rfl (And.intro rfl (And.intro (Nat.le_of_ble_eq_true rfl) ?_))))
  show mp_W E X 1 89 [(0, .ref a0)] [] [(a0, .inr (3, [.ref a1, .int 0, .ref a2, .int 0, .int (-1), .int 0, .int 0, .int 0, .int 0, .int 0]))] 0 0
  refine mp_run hF mp_tabX3_ok [mp_h (.goto 167) [256]] (by decide +kernel) ?_
  show mp_W E X 1 256 [(0, .ref a0)] [] [(a0, .inr (3, [.ref a1, .int 0, .ref a2, .int 0, .int (-1), .int 0, .int 0, .int 0, .int 0, .int 0]))] 0 0
  exact mp_vret hF hQ rfl (Nat.le_of_ble_eq_true rfl) (Nat.le_of_ble_eq_true rfl) [0] (w' := [(a0, .inr (3, [.ref a1, .int 0, .ref a2, .int 0, .int (-1), .int 0, .int 0, .int 0, .int 0, .int 0]))]) rfl rfl ⟨rfl, rfl⟩ (by decide +kernel)
set_option maxHeartbeats 4000000 in
set_option maxRecDepth 100000 in
theorem aX3_readAll_19 (E : mp_E) (a0 a1 a2 a3 a4 a5 a6 a7 a8 a9 a10 a11 a12 a13 a14 : Nat) : mp_Ct E yX3_readAll cX3_readAll 2 (some FieldType.boolean) 2 0 0 44 [.ref a0] [(a0, .inr (3, [.ref a4, .int 0, .ref a1, .int 0, .int (-1), .int 0, .int 0, .int 0, .int 0, .int 0])), (a1, .inr (7, [.int 0, .int 0, .int 0, .int 0, .int 0, .int 0, .ref a2, .ref a3, .ref a5, .ref a6, .ref a7, .ref a8, .ref a9, .ref a10, .ref a11, .ref a12, .ref a13, .ref a14])), (a2, .inl (E.2.2 0, 36, .inl (fun _ => 0))), (a3, .inl (E.2.2 2, 12, .inr (.inl (fun _ => 0))))] (fun v w' => ∃ h0 : Nat → Int32, ∃ h1 : Nat → Int64, v = some (.int 1) ∧ w' = [(a0, .inr (3, [.ref a4, .int 0, .ref a1, .int 0, .int (-1), .int 0, .int 0, .int 0, .int 0, .int 0])), (a1, .inr (7, [.int 0, .int 0, .int 0, .int 0, .int 0, .int 0, .ref a2, .ref a3, .ref a5, .ref a6, .ref a7, .ref a8, .ref a9, .ref a10, .ref a11, .ref a12, .ref a13, .ref a14])), (a2, .inl (E.2.2 0, 36, .inl h0)), (a3, .inl (E.2.2 2, 12, .inr (.inl h1)))]) := by
  refine mp_met false (by decide) (by decide) (Nat.le_of_ble_eq_true rfl) (fun X hF hQ => ?_)
  have hF : mp_F E X (RX3, cX3_readAll, 2, (2, 0, 0, 44), (some FieldType.boolean), false) := hF
  show mp_W E X 2 0 [(0, .ref a0)] [] [(a0, .inr (3, [.ref a4, .int 0, .ref a1, .int 0, .int (-1), .int 0, .int 0, .int 0, .int 0, .int 0])), (a1, .inr (7, [.int 0, .int 0, .int 0, .int 0, .int 0, .int 0, .ref a2, .ref a3, .ref a5, .ref a6, .ref a7, .ref a8, .ref a9, .ref a10, .ref a11, .ref a12, .ref a13, .ref a14])), (a2, .inl (E.2.2 0, 36, .inl (fun _ => 0))), (a3, .inl (E.2.2 2, 12, .inr (.inl (fun _ => 0))))] 0 0
  refine mp_run hF mp_tabX3_ok [mp_i (.aload_n 0), mp_h (.getfield 18) [11, 0]] (by decide +kernel) ?_
  refine And.intro rfl (And.intro rfl ?_)
  show mp_W E X 2 4 [(0, .ref a0)] [.ref a1] [(a0, .inr (3, [.ref a4, .int 0, .ref a1, .int 0, .int (-1), .int 0, .int 0, .int 0, .int 0, .int 0])), (a1, .inr (7, [.int 0, .int 0, .int 0, .int 0, .int 0, .int 0, .ref a2, .ref a3, .ref a5, .ref a6, .ref a7, .ref a8, .ref a9, .ref a10, .ref a11, .ref a12, .ref a13, .ref a14])), (a2, .inl (E.2.2 0, 36, .inl (fun _ => 0))), (a3, .inl (E.2.2 2, 12, .inr (.inl (fun _ => 0))))] 0 0
  refine mp_callV hF (As := []) (rest := []) (wr := [(a0, .inr (3, [.ref a4, .int 0, .ref a1, .int 0, .int (-1), .int 0, .int 0, .int 0, .int 0, .int 0]))]) (aX7_clear_17 E a1 a2 a3 a5 a6 a7 a8 a9 a10 a11 a12 a13 a14) mp_lkX3_29 1 rfl [1, 2, 3] [0] rfl rfl rfl rfl rfl ⟨(Nat.le_of_ble_eq_true rfl), (Nat.le_of_ble_eq_true rfl), (Nat.le_of_ble_eq_true rfl), (Nat.le_of_ble_eq_true rfl)⟩ (Nat.le_of_ble_eq_true rfl) (by decide +kernel) (fun v1 w2 h3 => ?_)
  obtain ⟨g4, g5, rfl, rfl⟩ := h3
  show mp_W E X 2 7 [(0, .ref a0)] [] [(a0, .inr (3, [.ref a4, .int 0, .ref a1, .int 0, .int (-1), .int 0, .int 0, .int 0, .int 0, .int 0])), (a1, .inr (7, [.int 0, .int 0, .int 0, .int 0, .int 0, .int 0, .ref a2, .ref a3, .ref a5, .ref a6, .ref a7, .ref a8, .ref a9, .ref a10, .ref a11, .ref a12, .ref a13, .ref a14])), (a2, .inl (E.2.2 0, 36, .inl g4)), (a3, .inl (E.2.2 2, 12, .inr (.inl g5)))] 0 0
  refine mp_run hF mp_tabX3_ok [mp_i (.aload_n 0), mp_c (.iconst 0) 0, mp_h (.putfield 32) [12, 0]] (by decide +kernel) ?_
  refine And.intro rfl (And.intro rfl (And.intro rfl (And.intro rfl (And.intro (Nat.le_of_ble_eq_true rfl) ?_))))
  show mp_W E X 2 12 [(0, .ref a0)] [] [(a0, .inr (3, [.ref a4, .int 0, .ref a1, .int 0, .int (-1), .int 0, .int 0, .int 0, .int 0, .int 0])), (a1, .inr (7, [.int 0, .int 0, .int 0, .int 0, .int 0, .int 0, .ref a2, .ref a3, .ref a5, .ref a6, .ref a7, .ref a8, .ref a9, .ref a10, .ref a11, .ref a12, .ref a13, .ref a14])), (a2, .inl (E.2.2 0, 36, .inl g4)), (a3, .inl (E.2.2 2, 12, .inr (.inl g5)))] 0 0
  refine mp_run hF mp_tabX3_ok [mp_i (.aload_n 0), mp_c (.iconst (-1)) (-1), mp_h (.putfield 22) [13, 0]] (by decide +kernel) ?_
  refine And.intro rfl (And.intro rfl (And.intro rfl (And.intro rfl (And.intro (Nat.le_of_ble_eq_true rfl) ?_))))
  show mp_W E X 2 17 [(0, .ref a0)] [] [(a0, .inr (3, [.ref a4, .int 0, .ref a1, .int 0, .int (-1), .int 0, .int 0, .int 0, .int 0, .int 0])), (a1, .inr (7, [.int 0, .int 0, .int 0, .int 0, .int 0, .int 0, .ref a2, .ref a3, .ref a5, .ref a6, .ref a7, .ref a8, .ref a9, .ref a10, .ref a11, .ref a12, .ref a13, .ref a14])), (a2, .inl (E.2.2 0, 36, .inl g4)), (a3, .inl (E.2.2 2, 12, .inr (.inl g5)))] 0 0
  refine mp_run hF mp_tabX3_ok [mp_i (.aload_n 0), mp_c (.iconst 0) 0, mp_h (.putfield 35) [16, 0]] (by decide +kernel) ?_
  refine And.intro rfl (And.intro rfl (And.intro rfl (And.intro rfl (And.intro (Nat.le_of_ble_eq_true rfl) ?_))))
  show mp_W E X 2 22 [(0, .ref a0)] [] [(a0, .inr (3, [.ref a4, .int 0, .ref a1, .int 0, .int (-1), .int 0, .int 0, .int 0, .int 0, .int 0])), (a1, .inr (7, [.int 0, .int 0, .int 0, .int 0, .int 0, .int 0, .ref a2, .ref a3, .ref a5, .ref a6, .ref a7, .ref a8, .ref a9, .ref a10, .ref a11, .ref a12, .ref a13, .ref a14])), (a2, .inl (E.2.2 0, 36, .inl g4)), (a3, .inl (E.2.2 2, 12, .inr (.inl g5)))] 0 0
  refine mp_run hF mp_tabX3_ok [mp_i (.aload_n 0)] (by decide +kernel) ?_
  show mp_W E X 2 23 [(0, .ref a0)] [.ref a0] [(a0, .inr (3, [.ref a4, .int 0, .ref a1, .int 0, .int (-1), .int 0, .int 0, .int 0, .int 0, .int 0])), (a1, .inr (7, [.int 0, .int 0, .int 0, .int 0, .int 0, .int 0, .ref a2, .ref a3, .ref a5, .ref a6, .ref a7, .ref a8, .ref a9, .ref a10, .ref a11, .ref a12, .ref a13, .ref a14])), (a2, .inl (E.2.2 0, 36, .inl g4)), (a3, .inl (E.2.2 2, 12, .inr (.inl g5)))] 0 0
  refine mp_callV hF (As := []) (rest := []) (wr := [(a1, .inr (7, [.int 0, .int 0, .int 0, .int 0, .int 0, .int 0, .ref a2, .ref a3, .ref a5, .ref a6, .ref a7, .ref a8, .ref a9, .ref a10, .ref a11, .ref a12, .ref a13, .ref a14])), (a2, .inl (E.2.2 0, 36, .inl g4)), (a3, .inl (E.2.2 2, 12, .inr (.inl g5)))]) (aX3_step_18 E a0 a4 a1) mp_lkX3_38 0 rfl [0] [1, 2, 3] rfl rfl rfl rfl rfl ⟨(Nat.le_of_ble_eq_true rfl), (Nat.le_of_ble_eq_true rfl), (Nat.le_of_ble_eq_true rfl), (Nat.le_of_ble_eq_true rfl)⟩ (Nat.le_of_ble_eq_true rfl) (by decide +kernel) (fun v6 w7 h8 => ?_)
  obtain ⟨rfl, rfl⟩ := h8
  show mp_W E X 2 26 [(0, .ref a0)] [] [(a1, .inr (7, [.int 0, .int 0, .int 0, .int 0, .int 0, .int 0, .ref a2, .ref a3, .ref a5, .ref a6, .ref a7, .ref a8, .ref a9, .ref a10, .ref a11, .ref a12, .ref a13, .ref a14])), (a2, .inl (E.2.2 0, 36, .inl g4)), (a3, .inl (E.2.2 2, 12, .inr (.inl g5))), (a0, .inr (3, [.ref a4, .int 0, .ref a1, .int 0, .int (-1), .int 0, .int 0, .int 0, .int 0, .int 0]))] 0 0
  refine mp_run hF mp_tabX3_ok [mp_c (.iconst 0) 0, mp_i (.istore_n 1), mp_i (.iload_n 1), mp_c (.sipush 1600) 1600, mp_h (.if_icmp .gt 45) [77]] (by decide +kernel) ?_
  refine And.intro (fun c9 => absurd c9 (by decide)) (fun _ => ?_)
  show mp_W E X 2 35 [(1, .int 0), (0, .ref a0)] [] [(a1, .inr (7, [.int 0, .int 0, .int 0, .int 0, .int 0, .int 0, .ref a2, .ref a3, .ref a5, .ref a6, .ref a7, .ref a8, .ref a9, .ref a10, .ref a11, .ref a12, .ref a13, .ref a14])), (a2, .inl (E.2.2 0, 36, .inl g4)), (a3, .inl (E.2.2 2, 12, .inr (.inl g5))), (a0, .inr (3, [.ref a4, .int 0, .ref a1, .int 0, .int (-1), .int 0, .int 0, .int 0, .int 0, .int 0]))] 0 0
  refine mp_run hF mp_tabX3_ok [mp_i (.aload_n 0), mp_h (.getfield 41) [14, 3], mp_h (.ifCond .eq 38) [77]] (by decide +kernel) ?_
  refine And.intro rfl (And.intro rfl ?_)
  refine And.intro (fun _ => ?_) (fun c10 => absurd c10 (by decide))
  show mp_W E X 2 77 [(1, .int 0), (0, .ref a0)] [] [(a1, .inr (7, [.int 0, .int 0, .int 0, .int 0, .int 0, .int 0, .ref a2, .ref a3, .ref a5, .ref a6, .ref a7, .ref a8, .ref a9, .ref a10, .ref a11, .ref a12, .ref a13, .ref a14])), (a2, .inl (E.2.2 0, 36, .inl g4)), (a3, .inl (E.2.2 2, 12, .inr (.inl g5))), (a0, .inr (3, [.ref a4, .int 0, .ref a1, .int 0, .int (-1), .int 0, .int 0, .int 0, .int 0, .int 0]))] 0 0
  refine mp_run hF mp_tabX3_ok [mp_c (.iconst 1) 1] (by decide +kernel) ?_
  show mp_W E X 2 78 [(1, .int 0), (0, .ref a0)] [.int 1] [(a1, .inr (7, [.int 0, .int 0, .int 0, .int 0, .int 0, .int 0, .ref a2, .ref a3, .ref a5, .ref a6, .ref a7, .ref a8, .ref a9, .ref a10, .ref a11, .ref a12, .ref a13, .ref a14])), (a2, .inl (E.2.2 0, 36, .inl g4)), (a3, .inl (E.2.2 2, 12, .inr (.inl g5))), (a0, .inr (3, [.ref a4, .int 0, .ref a1, .int 0, .int (-1), .int 0, .int 0, .int 0, .int 0, .int 0]))] 0 0
  exact mp_iret hF hQ rfl (by decide) (Nat.le_of_ble_eq_true rfl) (Nat.le_of_ble_eq_true rfl) [3, 0, 1, 2] (w' := [(a0, .inr (3, [.ref a4, .int 0, .ref a1, .int 0, .int (-1), .int 0, .int 0, .int 0, .int 0, .int 0])), (a1, .inr (7, [.int 0, .int 0, .int 0, .int 0, .int 0, .int 0, .ref a2, .ref a3, .ref a5, .ref a6, .ref a7, .ref a8, .ref a9, .ref a10, .ref a11, .ref a12, .ref a13, .ref a14])), (a2, .inl (E.2.2 0, 36, .inl g4)), (a3, .inl (E.2.2 2, 12, .inr (.inl g5)))]) rfl rfl ⟨g4, g5, rfl, rfl⟩ (by decide +kernel)
set_option maxHeartbeats 4000000 in
set_option maxRecDepth 100000 in
theorem aX7_copyFrom_20 (E : mp_E) (a0 a1 a2 a3 a4 a5 a6 a7 a8 a9 a10 a11 a12 a13 a14 a15 a16 a17 a18 a19 a20 a21 a22 a23 a24 a25 : Nat) (f0 : Nat → Int32) (f1 : Nat → Int64) : mp_Ct E yX7_copyFrom cX7_copyFrom 2 none 1 0 0 18 [.ref a0, .ref a1] [(a2, .inl (E.2.2 0, 6, .inl (fun _ => 0))), (a3, .inl (E.2.2 0, 6, .inl (fun _ => 0))), (a4, .inl (E.2.2 0, 6, .inl (fun _ => 0))), (a5, .inl (E.2.2 0, 10, .inl (fun _ => 0))), (a6, .inl (E.2.2 0, 10, .inl (fun _ => 0))), (a7, .inl (E.2.2 0, 10, .inl (fun _ => 0))), (a8, .inl (E.2.2 0, 10, .inl (fun _ => 0))), (a9, .inl (E.2.2 0, 10, .inl (fun _ => 0))), (a10, .inl (E.2.2 0, 10, .inl (fun _ => 0))), (a11, .inl (E.2.2 0, 60, .inl (fun _ => 0))), (a0, .inr (7, [.int 0, .int 0, .int 0, .int 0, .int 0, .int 0, .ref a12, .ref a13, .ref a14, .ref a15, .ref a16, .ref a17, .ref a18, .ref a19, .ref a20, .ref a21, .ref a22, .ref a23])), (a12, .inl (E.2.2 0, 36, .inl (fun _ => 0))), (a13, .inl (E.2.2 2, 12, .inr (.inl (fun _ => 0)))), (a14, .inl (E.2.2 0, 6, .inl (fun _ => 0))), (a15, .inl (E.2.2 0, 6, .inl (fun _ => 0))), (a16, .inl (E.2.2 0, 6, .inl (fun _ => 0))), (a17, .inl (E.2.2 0, 10, .inl (fun _ => 0))), (a18, .inl (E.2.2 0, 10, .inl (fun _ => 0))), (a19, .inl (E.2.2 0, 10, .inl (fun _ => 0))), (a20, .inl (E.2.2 0, 10, .inl (fun _ => 0))), (a21, .inl (E.2.2 0, 10, .inl (fun _ => 0))), (a22, .inl (E.2.2 0, 10, .inl (fun _ => 0))), (a23, .inl (E.2.2 0, 60, .inl (fun _ => 0))), (a1, .inr (7, [.int 0, .int 0, .int 0, .int 0, .int 0, .int 0, .ref a24, .ref a25, .ref a2, .ref a3, .ref a4, .ref a5, .ref a6, .ref a7, .ref a8, .ref a9, .ref a10, .ref a11])), (a24, .inl (E.2.2 0, 36, .inl f0)), (a25, .inl (E.2.2 2, 12, .inr (.inl f1)))] (fun v w' => ∃ h0 : Nat → Int32, ∃ h1 : Nat → Int64, v = none ∧ w' = [(a2, .inl (E.2.2 0, 6, .inl (fun _ => 0))), (a3, .inl (E.2.2 0, 6, .inl (fun _ => 0))), (a4, .inl (E.2.2 0, 6, .inl (fun _ => 0))), (a5, .inl (E.2.2 0, 10, .inl (fun _ => 0))), (a6, .inl (E.2.2 0, 10, .inl (fun _ => 0))), (a7, .inl (E.2.2 0, 10, .inl (fun _ => 0))), (a8, .inl (E.2.2 0, 10, .inl (fun _ => 0))), (a9, .inl (E.2.2 0, 10, .inl (fun _ => 0))), (a10, .inl (E.2.2 0, 10, .inl (fun _ => 0))), (a11, .inl (E.2.2 0, 60, .inl (fun _ => 0))), (a0, .inr (7, [.int 0, .int 0, .int 0, .int 0, .int 0, .int 0, .ref a12, .ref a13, .ref a14, .ref a15, .ref a16, .ref a17, .ref a18, .ref a19, .ref a20, .ref a21, .ref a22, .ref a23])), (a12, .inl (E.2.2 0, 36, .inl h0)), (a13, .inl (E.2.2 2, 12, .inr (.inl h1))), (a14, .inl (E.2.2 0, 6, .inl (fun _ => 0))), (a15, .inl (E.2.2 0, 6, .inl (fun _ => 0))), (a16, .inl (E.2.2 0, 6, .inl (fun _ => 0))), (a17, .inl (E.2.2 0, 10, .inl (fun _ => 0))), (a18, .inl (E.2.2 0, 10, .inl (fun _ => 0))), (a19, .inl (E.2.2 0, 10, .inl (fun _ => 0))), (a20, .inl (E.2.2 0, 10, .inl (fun _ => 0))), (a21, .inl (E.2.2 0, 10, .inl (fun _ => 0))), (a22, .inl (E.2.2 0, 10, .inl (fun _ => 0))), (a23, .inl (E.2.2 0, 60, .inl (fun _ => 0))), (a1, .inr (7, [.int 0, .int 0, .int 0, .int 0, .int 0, .int 0, .ref a24, .ref a25, .ref a2, .ref a3, .ref a4, .ref a5, .ref a6, .ref a7, .ref a8, .ref a9, .ref a10, .ref a11])), (a24, .inl (E.2.2 0, 36, .inl f0)), (a25, .inl (E.2.2 2, 12, .inr (.inl f1)))]) := by
  refine mp_met false (by decide) (by decide) (Nat.le_of_ble_eq_true rfl) (fun X hF hQ => ?_)
  have hF : mp_F E X (RX7, cX7_copyFrom, 2, (1, 0, 0, 18), none, false) := hF
  show mp_W E X 2 0 [(0, .ref a0), (1, .ref a1)] [] [(a2, .inl (E.2.2 0, 6, .inl (fun _ => 0))), (a3, .inl (E.2.2 0, 6, .inl (fun _ => 0))), (a4, .inl (E.2.2 0, 6, .inl (fun _ => 0))), (a5, .inl (E.2.2 0, 10, .inl (fun _ => 0))), (a6, .inl (E.2.2 0, 10, .inl (fun _ => 0))), (a7, .inl (E.2.2 0, 10, .inl (fun _ => 0))), (a8, .inl (E.2.2 0, 10, .inl (fun _ => 0))), (a9, .inl (E.2.2 0, 10, .inl (fun _ => 0))), (a10, .inl (E.2.2 0, 10, .inl (fun _ => 0))), (a11, .inl (E.2.2 0, 60, .inl (fun _ => 0))), (a0, .inr (7, [.int 0, .int 0, .int 0, .int 0, .int 0, .int 0, .ref a12, .ref a13, .ref a14, .ref a15, .ref a16, .ref a17, .ref a18, .ref a19, .ref a20, .ref a21, .ref a22, .ref a23])), (a12, .inl (E.2.2 0, 36, .inl (fun _ => 0))), (a13, .inl (E.2.2 2, 12, .inr (.inl (fun _ => 0)))), (a14, .inl (E.2.2 0, 6, .inl (fun _ => 0))), (a15, .inl (E.2.2 0, 6, .inl (fun _ => 0))), (a16, .inl (E.2.2 0, 6, .inl (fun _ => 0))), (a17, .inl (E.2.2 0, 10, .inl (fun _ => 0))), (a18, .inl (E.2.2 0, 10, .inl (fun _ => 0))), (a19, .inl (E.2.2 0, 10, .inl (fun _ => 0))), (a20, .inl (E.2.2 0, 10, .inl (fun _ => 0))), (a21, .inl (E.2.2 0, 10, .inl (fun _ => 0))), (a22, .inl (E.2.2 0, 10, .inl (fun _ => 0))), (a23, .inl (E.2.2 0, 60, .inl (fun _ => 0))), (a1, .inr (7, [.int 0, .int 0, .int 0, .int 0, .int 0, .int 0, .ref a24, .ref a25, .ref a2, .ref a3, .ref a4, .ref a5, .ref a6, .ref a7, .ref a8, .ref a9, .ref a10, .ref a11])), (a24, .inl (E.2.2 0, 36, .inl f0)), (a25, .inl (E.2.2 2, 12, .inr (.inl f1)))] 0 0
  refine mp_run hF mp_tabX7_ok [mp_i (.aload_n 0), mp_i (.aload_n 1), mp_h (.getfield 49) [0, 23], mp_h (.putfield 49) [0, 10]] (by decide +kernel) ?_
  refine And.intro rfl (And.intro rfl ?_)
  refine And.intro rfl (And.intro rfl (And.intro rfl (And.intro rfl (And.intro (Nat.le_of_ble_eq_true rfl) ?_))))
  show mp_W E X 2 8 [(0, .ref a0), (1, .ref a1)] [] [(a2, .inl (E.2.2 0, 6, .inl (fun _ => 0))), (a3, .inl (E.2.2 0, 6, .inl (fun _ => 0))), (a4, .inl (E.2.2 0, 6, .inl (fun _ => 0))), (a5, .inl (E.2.2 0, 10, .inl (fun _ => 0))), (a6, .inl (E.2.2 0, 10, .inl (fun _ => 0))), (a7, .inl (E.2.2 0, 10, .inl (fun _ => 0))), (a8, .inl (E.2.2 0, 10, .inl (fun _ => 0))), (a9, .inl (E.2.2 0, 10, .inl (fun _ => 0))), (a10, .inl (E.2.2 0, 10, .inl (fun _ => 0))), (a11, .inl (E.2.2 0, 60, .inl (fun _ => 0))), (a0, .inr (7, [.int 0, .int 0, .int 0, .int 0, .int 0, .int 0, .ref a12, .ref a13, .ref a14, .ref a15, .ref a16, .ref a17, .ref a18, .ref a19, .ref a20, .ref a21, .ref a22, .ref a23])), (a12, .inl (E.2.2 0, 36, .inl (fun _ => 0))), (a13, .inl (E.2.2 2, 12, .inr (.inl (fun _ => 0)))), (a14, .inl (E.2.2 0, 6, .inl (fun _ => 0))), (a15, .inl (E.2.2 0, 6, .inl (fun _ => 0))), (a16, .inl (E.2.2 0, 6, .inl (fun _ => 0))), (a17, .inl (E.2.2 0, 10, .inl (fun _ => 0))), (a18, .inl (E.2.2 0, 10, .inl (fun _ => 0))), (a19, .inl (E.2.2 0, 10, .inl (fun _ => 0))), (a20, .inl (E.2.2 0, 10, .inl (fun _ => 0))), (a21, .inl (E.2.2 0, 10, .inl (fun _ => 0))), (a22, .inl (E.2.2 0, 10, .inl (fun _ => 0))), (a23, .inl (E.2.2 0, 60, .inl (fun _ => 0))), (a1, .inr (7, [.int 0, .int 0, .int 0, .int 0, .int 0, .int 0, .ref a24, .ref a25, .ref a2, .ref a3, .ref a4, .ref a5, .ref a6, .ref a7, .ref a8, .ref a9, .ref a10, .ref a11])), (a24, .inl (E.2.2 0, 36, .inl f0)), (a25, .inl (E.2.2 2, 12, .inr (.inl f1)))] 0 0
  refine mp_run hF mp_tabX7_ok [mp_i (.aload_n 0), mp_i (.aload_n 1), mp_h (.getfield 53) [1, 23], mp_h (.putfield 53) [1, 10]] (by decide +kernel) ?_
  refine And.intro rfl (And.intro rfl ?_)
  refine And.intro rfl (And.intro rfl (And.intro rfl (And.intro rfl (And.intro (Nat.le_of_ble_eq_true rfl) ?_))))
  show mp_W E X 2 16 [(0, .ref a0), (1, .ref a1)] [] [(a2, .inl (E.2.2 0, 6, .inl (fun _ => 0))), (a3, .inl (E.2.2 0, 6, .inl (fun _ => 0))), (a4, .inl (E.2.2 0, 6, .inl (fun _ => 0))), (a5, .inl (E.2.2 0, 10, .inl (fun _ => 0))), (a6, .inl (E.2.2 0, 10, .inl (fun _ => 0))), (a7, .inl (E.2.2 0, 10, .inl (fun _ => 0))), (a8, .inl (E.2.2 0, 10, .inl (fun _ => 0))), (a9, .inl (E.2.2 0, 10, .inl (fun _ => 0))), (a10, .inl (E.2.2 0, 10, .inl (fun _ => 0))), (a11, .inl (E.2.2 0, 60, .inl (fun _ => 0))), (a0, .inr (7, [.int 0, .int 0, .int 0, .int 0, .int 0, .int 0, .ref a12, .ref a13, .ref a14, .ref a15, .ref a16, .ref a17, .ref a18, .ref a19, .ref a20, .ref a21, .ref a22, .ref a23])), (a12, .inl (E.2.2 0, 36, .inl (fun _ => 0))), (a13, .inl (E.2.2 2, 12, .inr (.inl (fun _ => 0)))), (a14, .inl (E.2.2 0, 6, .inl (fun _ => 0))), (a15, .inl (E.2.2 0, 6, .inl (fun _ => 0))), (a16, .inl (E.2.2 0, 6, .inl (fun _ => 0))), (a17, .inl (E.2.2 0, 10, .inl (fun _ => 0))), (a18, .inl (E.2.2 0, 10, .inl (fun _ => 0))), (a19, .inl (E.2.2 0, 10, .inl (fun _ => 0))), (a20, .inl (E.2.2 0, 10, .inl (fun _ => 0))), (a21, .inl (E.2.2 0, 10, .inl (fun _ => 0))), (a22, .inl (E.2.2 0, 10, .inl (fun _ => 0))), (a23, .inl (E.2.2 0, 60, .inl (fun _ => 0))), (a1, .inr (7, [.int 0, .int 0, .int 0, .int 0, .int 0, .int 0, .ref a24, .ref a25, .ref a2, .ref a3, .ref a4, .ref a5, .ref a6, .ref a7, .ref a8, .ref a9, .ref a10, .ref a11])), (a24, .inl (E.2.2 0, 36, .inl f0)), (a25, .inl (E.2.2 2, 12, .inr (.inl f1)))] 0 0
  refine mp_run hF mp_tabX7_ok [mp_i (.aload_n 0), mp_i (.aload_n 1), mp_h (.getfield 56) [2, 23], mp_h (.putfield 56) [2, 10]] (by decide +kernel) ?_
  refine And.intro rfl (And.intro rfl ?_)
  refine And.intro rfl (And.intro rfl (And.intro rfl (And.intro rfl (And.intro (Nat.le_of_ble_eq_true rfl) ?_))))
  show mp_W E X 2 24 [(0, .ref a0), (1, .ref a1)] [] [(a2, .inl (E.2.2 0, 6, .inl (fun _ => 0))), (a3, .inl (E.2.2 0, 6, .inl (fun _ => 0))), (a4, .inl (E.2.2 0, 6, .inl (fun _ => 0))), (a5, .inl (E.2.2 0, 10, .inl (fun _ => 0))), (a6, .inl (E.2.2 0, 10, .inl (fun _ => 0))), (a7, .inl (E.2.2 0, 10, .inl (fun _ => 0))), (a8, .inl (E.2.2 0, 10, .inl (fun _ => 0))), (a9, .inl (E.2.2 0, 10, .inl (fun _ => 0))), (a10, .inl (E.2.2 0, 10, .inl (fun _ => 0))), (a11, .inl (E.2.2 0, 60, .inl (fun _ => 0))), (a0, .inr (7, [.int 0, .int 0, .int 0, .int 0, .int 0, .int 0, .ref a12, .ref a13, .ref a14, .ref a15, .ref a16, .ref a17, .ref a18, .ref a19, .ref a20, .ref a21, .ref a22, .ref a23])), (a12, .inl (E.2.2 0, 36, .inl (fun _ => 0))), (a13, .inl (E.2.2 2, 12, .inr (.inl (fun _ => 0)))), (a14, .inl (E.2.2 0, 6, .inl (fun _ => 0))), (a15, .inl (E.2.2 0, 6, .inl (fun _ => 0))), (a16, .inl (E.2.2 0, 6, .inl (fun _ => 0))), (a17, .inl (E.2.2 0, 10, .inl (fun _ => 0))), (a18, .inl (E.2.2 0, 10, .inl (fun _ => 0))), (a19, .inl (E.2.2 0, 10, .inl (fun _ => 0))), (a20, .inl (E.2.2 0, 10, .inl (fun _ => 0))), (a21, .inl (E.2.2 0, 10, .inl (fun _ => 0))), (a22, .inl (E.2.2 0, 10, .inl (fun _ => 0))), (a23, .inl (E.2.2 0, 60, .inl (fun _ => 0))), (a1, .inr (7, [.int 0, .int 0, .int 0, .int 0, .int 0, .int 0, .ref a24, .ref a25, .ref a2, .ref a3, .ref a4, .ref a5, .ref a6, .ref a7, .ref a8, .ref a9, .ref a10, .ref a11])), (a24, .inl (E.2.2 0, 36, .inl f0)), (a25, .inl (E.2.2 2, 12, .inr (.inl f1)))] 0 0
  refine mp_run hF mp_tabX7_ok [mp_i (.aload_n 0), mp_i (.aload_n 1), mp_h (.getfield 59) [3, 23], mp_h (.putfield 59) [3, 10]] (by decide +kernel) ?_
  refine And.intro rfl (And.intro rfl ?_)
  refine And.intro rfl (And.intro rfl (And.intro rfl (And.intro rfl (And.intro (Nat.le_of_ble_eq_true rfl) ?_))))
  show mp_W E X 2 32 [(0, .ref a0), (1, .ref a1)] [] [(a2, .inl (E.2.2 0, 6, .inl (fun _ => 0))), (a3, .inl (E.2.2 0, 6, .inl (fun _ => 0))), (a4, .inl (E.2.2 0, 6, .inl (fun _ => 0))), (a5, .inl (E.2.2 0, 10, .inl (fun _ => 0))), (a6, .inl (E.2.2 0, 10, .inl (fun _ => 0))), (a7, .inl (E.2.2 0, 10, .inl (fun _ => 0))), (a8, .inl (E.2.2 0, 10, .inl (fun _ => 0))), (a9, .inl (E.2.2 0, 10, .inl (fun _ => 0))), (a10, .inl (E.2.2 0, 10, .inl (fun _ => 0))), (a11, .inl (E.2.2 0, 60, .inl (fun _ => 0))), (a0, .inr (7, [.int 0, .int 0, .int 0, .int 0, .int 0, .int 0, .ref a12, .ref a13, .ref a14, .ref a15, .ref a16, .ref a17, .ref a18, .ref a19, .ref a20, .ref a21, .ref a22, .ref a23])), (a12, .inl (E.2.2 0, 36, .inl (fun _ => 0))), (a13, .inl (E.2.2 2, 12, .inr (.inl (fun _ => 0)))), (a14, .inl (E.2.2 0, 6, .inl (fun _ => 0))), (a15, .inl (E.2.2 0, 6, .inl (fun _ => 0))), (a16, .inl (E.2.2 0, 6, .inl (fun _ => 0))), (a17, .inl (E.2.2 0, 10, .inl (fun _ => 0))), (a18, .inl (E.2.2 0, 10, .inl (fun _ => 0))), (a19, .inl (E.2.2 0, 10, .inl (fun _ => 0))), (a20, .inl (E.2.2 0, 10, .inl (fun _ => 0))), (a21, .inl (E.2.2 0, 10, .inl (fun _ => 0))), (a22, .inl (E.2.2 0, 10, .inl (fun _ => 0))), (a23, .inl (E.2.2 0, 60, .inl (fun _ => 0))), (a1, .inr (7, [.int 0, .int 0, .int 0, .int 0, .int 0, .int 0, .ref a24, .ref a25, .ref a2, .ref a3, .ref a4, .ref a5, .ref a6, .ref a7, .ref a8, .ref a9, .ref a10, .ref a11])), (a24, .inl (E.2.2 0, 36, .inl f0)), (a25, .inl (E.2.2 2, 12, .inr (.inl f1)))] 0 0
  refine mp_run hF mp_tabX7_ok [mp_i (.aload_n 0), mp_i (.aload_n 1), mp_h (.getfield 62) [4, 23], mp_h (.putfield 62) [4, 10]] (by decide +kernel) ?_
  refine And.intro rfl (And.intro rfl ?_)
  refine And.intro rfl (And.intro rfl (And.intro rfl (And.intro rfl (And.intro (Nat.le_of_ble_eq_true rfl) ?_))))
  show mp_W E X 2 40 [(0, .ref a0), (1, .ref a1)] [] [(a2, .inl (E.2.2 0, 6, .inl (fun _ => 0))), (a3, .inl (E.2.2 0, 6, .inl (fun _ => 0))), (a4, .inl (E.2.2 0, 6, .inl (fun _ => 0))), (a5, .inl (E.2.2 0, 10, .inl (fun _ => 0))), (a6, .inl (E.2.2 0, 10, .inl (fun _ => 0))), (a7, .inl (E.2.2 0, 10, .inl (fun _ => 0))), (a8, .inl (E.2.2 0, 10, .inl (fun _ => 0))), (a9, .inl (E.2.2 0, 10, .inl (fun _ => 0))), (a10, .inl (E.2.2 0, 10, .inl (fun _ => 0))), (a11, .inl (E.2.2 0, 60, .inl (fun _ => 0))), (a0, .inr (7, [.int 0, .int 0, .int 0, .int 0, .int 0, .int 0, .ref a12, .ref a13, .ref a14, .ref a15, .ref a16, .ref a17, .ref a18, .ref a19, .ref a20, .ref a21, .ref a22, .ref a23])), (a12, .inl (E.2.2 0, 36, .inl (fun _ => 0))), (a13, .inl (E.2.2 2, 12, .inr (.inl (fun _ => 0)))), (a14, .inl (E.2.2 0, 6, .inl (fun _ => 0))), (a15, .inl (E.2.2 0, 6, .inl (fun _ => 0))), (a16, .inl (E.2.2 0, 6, .inl (fun _ => 0))), (a17, .inl (E.2.2 0, 10, .inl (fun _ => 0))), (a18, .inl (E.2.2 0, 10, .inl (fun _ => 0))), (a19, .inl (E.2.2 0, 10, .inl (fun _ => 0))), (a20, .inl (E.2.2 0, 10, .inl (fun _ => 0))), (a21, .inl (E.2.2 0, 10, .inl (fun _ => 0))), (a22, .inl (E.2.2 0, 10, .inl (fun _ => 0))), (a23, .inl (E.2.2 0, 60, .inl (fun _ => 0))), (a1, .inr (7, [.int 0, .int 0, .int 0, .int 0, .int 0, .int 0, .ref a24, .ref a25, .ref a2, .ref a3, .ref a4, .ref a5, .ref a6, .ref a7, .ref a8, .ref a9, .ref a10, .ref a11])), (a24, .inl (E.2.2 0, 36, .inl f0)), (a25, .inl (E.2.2 2, 12, .inr (.inl f1)))] 0 0
  refine mp_run hF mp_tabX7_ok [mp_i (.aload_n 0), mp_i (.aload_n 1), mp_h (.getfield 65) [5, 23], mp_h (.putfield 65) [5, 10]] (by decide +kernel) ?_
  refine And.intro rfl (And.intro rfl ?_)
  refine And.intro rfl (And.intro rfl (And.intro rfl (And.intro rfl (And.intro (Nat.le_of_ble_eq_true rfl) ?_))))
  show mp_W E X 2 48 [(0, .ref a0), (1, .ref a1)] [] [(a2, .inl (E.2.2 0, 6, .inl (fun _ => 0))), (a3, .inl (E.2.2 0, 6, .inl (fun _ => 0))), (a4, .inl (E.2.2 0, 6, .inl (fun _ => 0))), (a5, .inl (E.2.2 0, 10, .inl (fun _ => 0))), (a6, .inl (E.2.2 0, 10, .inl (fun _ => 0))), (a7, .inl (E.2.2 0, 10, .inl (fun _ => 0))), (a8, .inl (E.2.2 0, 10, .inl (fun _ => 0))), (a9, .inl (E.2.2 0, 10, .inl (fun _ => 0))), (a10, .inl (E.2.2 0, 10, .inl (fun _ => 0))), (a11, .inl (E.2.2 0, 60, .inl (fun _ => 0))), (a0, .inr (7, [.int 0, .int 0, .int 0, .int 0, .int 0, .int 0, .ref a12, .ref a13, .ref a14, .ref a15, .ref a16, .ref a17, .ref a18, .ref a19, .ref a20, .ref a21, .ref a22, .ref a23])), (a12, .inl (E.2.2 0, 36, .inl (fun _ => 0))), (a13, .inl (E.2.2 2, 12, .inr (.inl (fun _ => 0)))), (a14, .inl (E.2.2 0, 6, .inl (fun _ => 0))), (a15, .inl (E.2.2 0, 6, .inl (fun _ => 0))), (a16, .inl (E.2.2 0, 6, .inl (fun _ => 0))), (a17, .inl (E.2.2 0, 10, .inl (fun _ => 0))), (a18, .inl (E.2.2 0, 10, .inl (fun _ => 0))), (a19, .inl (E.2.2 0, 10, .inl (fun _ => 0))), (a20, .inl (E.2.2 0, 10, .inl (fun _ => 0))), (a21, .inl (E.2.2 0, 10, .inl (fun _ => 0))), (a22, .inl (E.2.2 0, 10, .inl (fun _ => 0))), (a23, .inl (E.2.2 0, 60, .inl (fun _ => 0))), (a1, .inr (7, [.int 0, .int 0, .int 0, .int 0, .int 0, .int 0, .ref a24, .ref a25, .ref a2, .ref a3, .ref a4, .ref a5, .ref a6, .ref a7, .ref a8, .ref a9, .ref a10, .ref a11])), (a24, .inl (E.2.2 0, 36, .inl f0)), (a25, .inl (E.2.2 2, 12, .inr (.inl f1)))] 0 0
  refine mp_run hF mp_tabX7_ok [mp_i (.aload_n 1), mp_h (.getfield 9) [6, 23], mp_c (.iconst 0) 0, mp_i (.aload_n 0), mp_h (.getfield 9) [6, 10], mp_c (.iconst 0) 0, mp_i (.aload_n 0), mp_h (.getfield 9) [6, 10], mp_h .arraylength [11, 0]] (by decide +kernel) ?_
  refine And.intro rfl (And.intro rfl ?_)
  refine And.intro rfl (And.intro rfl ?_)
  refine And.intro rfl (And.intro rfl ?_)
  refine And.intro rfl (And.intro rfl (And.intro (by decide) ?_))
  intro z1 h2
  obtain rfl : z1 = 36 := h2.trans (by decide)
  show mp_W E X 2 63 [(0, .ref a0), (1, .ref a1)] [.int 36, .int 0, .ref a12, .int 0, .ref a24] [(a2, .inl (E.2.2 0, 6, .inl (fun _ => 0))), (a3, .inl (E.2.2 0, 6, .inl (fun _ => 0))), (a4, .inl (E.2.2 0, 6, .inl (fun _ => 0))), (a5, .inl (E.2.2 0, 10, .inl (fun _ => 0))), (a6, .inl (E.2.2 0, 10, .inl (fun _ => 0))), (a7, .inl (E.2.2 0, 10, .inl (fun _ => 0))), (a8, .inl (E.2.2 0, 10, .inl (fun _ => 0))), (a9, .inl (E.2.2 0, 10, .inl (fun _ => 0))), (a10, .inl (E.2.2 0, 10, .inl (fun _ => 0))), (a11, .inl (E.2.2 0, 60, .inl (fun _ => 0))), (a0, .inr (7, [.int 0, .int 0, .int 0, .int 0, .int 0, .int 0, .ref a12, .ref a13, .ref a14, .ref a15, .ref a16, .ref a17, .ref a18, .ref a19, .ref a20, .ref a21, .ref a22, .ref a23])), (a12, .inl (E.2.2 0, 36, .inl (fun _ => 0))), (a13, .inl (E.2.2 2, 12, .inr (.inl (fun _ => 0)))), (a14, .inl (E.2.2 0, 6, .inl (fun _ => 0))), (a15, .inl (E.2.2 0, 6, .inl (fun _ => 0))), (a16, .inl (E.2.2 0, 6, .inl (fun _ => 0))), (a17, .inl (E.2.2 0, 10, .inl (fun _ => 0))), (a18, .inl (E.2.2 0, 10, .inl (fun _ => 0))), (a19, .inl (E.2.2 0, 10, .inl (fun _ => 0))), (a20, .inl (E.2.2 0, 10, .inl (fun _ => 0))), (a21, .inl (E.2.2 0, 10, .inl (fun _ => 0))), (a22, .inl (E.2.2 0, 10, .inl (fun _ => 0))), (a23, .inl (E.2.2 0, 60, .inl (fun _ => 0))), (a1, .inr (7, [.int 0, .int 0, .int 0, .int 0, .int 0, .int 0, .ref a24, .ref a25, .ref a2, .ref a3, .ref a4, .ref a5, .ref a6, .ref a7, .ref a8, .ref a9, .ref a10, .ref a11])), (a24, .inl (E.2.2 0, 36, .inl f0)), (a25, .inl (E.2.2 2, 12, .inr (.inl f1)))] 0 0
  refine mp_copyi hF (idx := 77) (mp_gm (j := 3113) (by decide +kernel)) 24 11 rfl rfl (by decide) (by decide) (by decide) (by decide) (by decide) ⟨(Nat.le_of_ble_eq_true rfl), (Nat.le_of_ble_eq_true rfl)⟩ (by decide +kernel) (fun g3 h4 => ?_)
  show mp_W E X 2 66 [(0, .ref a0), (1, .ref a1)] [] [(a2, .inl (E.2.2 0, 6, .inl (fun _ => 0))), (a3, .inl (E.2.2 0, 6, .inl (fun _ => 0))), (a4, .inl (E.2.2 0, 6, .inl (fun _ => 0))), (a5, .inl (E.2.2 0, 10, .inl (fun _ => 0))), (a6, .inl (E.2.2 0, 10, .inl (fun _ => 0))), (a7, .inl (E.2.2 0, 10, .inl (fun _ => 0))), (a8, .inl (E.2.2 0, 10, .inl (fun _ => 0))), (a9, .inl (E.2.2 0, 10, .inl (fun _ => 0))), (a10, .inl (E.2.2 0, 10, .inl (fun _ => 0))), (a11, .inl (E.2.2 0, 60, .inl (fun _ => 0))), (a0, .inr (7, [.int 0, .int 0, .int 0, .int 0, .int 0, .int 0, .ref a12, .ref a13, .ref a14, .ref a15, .ref a16, .ref a17, .ref a18, .ref a19, .ref a20, .ref a21, .ref a22, .ref a23])), (a12, .inl (E.2.2 0, 36, .inl g3)), (a13, .inl (E.2.2 2, 12, .inr (.inl (fun _ => 0)))), (a14, .inl (E.2.2 0, 6, .inl (fun _ => 0))), (a15, .inl (E.2.2 0, 6, .inl (fun _ => 0))), (a16, .inl (E.2.2 0, 6, .inl (fun _ => 0))), (a17, .inl (E.2.2 0, 10, .inl (fun _ => 0))), (a18, .inl (E.2.2 0, 10, .inl (fun _ => 0))), (a19, .inl (E.2.2 0, 10, .inl (fun _ => 0))), (a20, .inl (E.2.2 0, 10, .inl (fun _ => 0))), (a21, .inl (E.2.2 0, 10, .inl (fun _ => 0))), (a22, .inl (E.2.2 0, 10, .inl (fun _ => 0))), (a23, .inl (E.2.2 0, 60, .inl (fun _ => 0))), (a1, .inr (7, [.int 0, .int 0, .int 0, .int 0, .int 0, .int 0, .ref a24, .ref a25, .ref a2, .ref a3, .ref a4, .ref a5, .ref a6, .ref a7, .ref a8, .ref a9, .ref a10, .ref a11])), (a24, .inl (E.2.2 0, 36, .inl f0)), (a25, .inl (E.2.2 2, 12, .inr (.inl f1)))] 0 0
  refine mp_run hF mp_tabX7_ok [mp_i (.aload_n 1), mp_h (.getfield 15) [7, 23], mp_c (.iconst 0) 0, mp_i (.aload_n 0), mp_h (.getfield 15) [7, 10], mp_c (.iconst 0) 0, mp_i (.aload_n 0), mp_h (.getfield 15) [7, 10], mp_h .arraylength [12, 2]] (by decide +kernel) ?_
  refine And.intro rfl (And.intro rfl ?_)
  refine And.intro rfl (And.intro rfl ?_)
  refine And.intro rfl (And.intro rfl ?_)
  refine And.intro rfl (And.intro rfl (And.intro (by decide) ?_))
  intro z5 h6
  obtain rfl : z5 = 12 := h6.trans (by decide)
  show mp_W E X 2 81 [(0, .ref a0), (1, .ref a1)] [.int 12, .int 0, .ref a13, .int 0, .ref a25] [(a2, .inl (E.2.2 0, 6, .inl (fun _ => 0))), (a3, .inl (E.2.2 0, 6, .inl (fun _ => 0))), (a4, .inl (E.2.2 0, 6, .inl (fun _ => 0))), (a5, .inl (E.2.2 0, 10, .inl (fun _ => 0))), (a6, .inl (E.2.2 0, 10, .inl (fun _ => 0))), (a7, .inl (E.2.2 0, 10, .inl (fun _ => 0))), (a8, .inl (E.2.2 0, 10, .inl (fun _ => 0))), (a9, .inl (E.2.2 0, 10, .inl (fun _ => 0))), (a10, .inl (E.2.2 0, 10, .inl (fun _ => 0))), (a11, .inl (E.2.2 0, 60, .inl (fun _ => 0))), (a0, .inr (7, [.int 0, .int 0, .int 0, .int 0, .int 0, .int 0, .ref a12, .ref a13, .ref a14, .ref a15, .ref a16, .ref a17, .ref a18, .ref a19, .ref a20, .ref a21, .ref a22, .ref a23])), (a12, .inl (E.2.2 0, 36, .inl g3)), (a13, .inl (E.2.2 2, 12, .inr (.inl (fun _ => 0)))), (a14, .inl (E.2.2 0, 6, .inl (fun _ => 0))), (a15, .inl (E.2.2 0, 6, .inl (fun _ => 0))), (a16, .inl (E.2.2 0, 6, .inl (fun _ => 0))), (a17, .inl (E.2.2 0, 10, .inl (fun _ => 0))), (a18, .inl (E.2.2 0, 10, .inl (fun _ => 0))), (a19, .inl (E.2.2 0, 10, .inl (fun _ => 0))), (a20, .inl (E.2.2 0, 10, .inl (fun _ => 0))), (a21, .inl (E.2.2 0, 10, .inl (fun _ => 0))), (a22, .inl (E.2.2 0, 10, .inl (fun _ => 0))), (a23, .inl (E.2.2 0, 60, .inl (fun _ => 0))), (a1, .inr (7, [.int 0, .int 0, .int 0, .int 0, .int 0, .int 0, .ref a24, .ref a25, .ref a2, .ref a3, .ref a4, .ref a5, .ref a6, .ref a7, .ref a8, .ref a9, .ref a10, .ref a11])), (a24, .inl (E.2.2 0, 36, .inl f0)), (a25, .inl (E.2.2 2, 12, .inr (.inl f1)))] 0 0
  refine mp_copyl hF (idx := 77) (mp_gm (j := 3113) (by decide +kernel)) 25 12 rfl rfl (by decide) (by decide) (by decide) (by decide) (by decide) ⟨(Nat.le_of_ble_eq_true rfl), (Nat.le_of_ble_eq_true rfl)⟩ (by decide +kernel) (fun g7 h8 => ?_)
  show mp_W E X 2 84 [(0, .ref a0), (1, .ref a1)] [] [(a2, .inl (E.2.2 0, 6, .inl (fun _ => 0))), (a3, .inl (E.2.2 0, 6, .inl (fun _ => 0))), (a4, .inl (E.2.2 0, 6, .inl (fun _ => 0))), (a5, .inl (E.2.2 0, 10, .inl (fun _ => 0))), (a6, .inl (E.2.2 0, 10, .inl (fun _ => 0))), (a7, .inl (E.2.2 0, 10, .inl (fun _ => 0))), (a8, .inl (E.2.2 0, 10, .inl (fun _ => 0))), (a9, .inl (E.2.2 0, 10, .inl (fun _ => 0))), (a10, .inl (E.2.2 0, 10, .inl (fun _ => 0))), (a11, .inl (E.2.2 0, 60, .inl (fun _ => 0))), (a0, .inr (7, [.int 0, .int 0, .int 0, .int 0, .int 0, .int 0, .ref a12, .ref a13, .ref a14, .ref a15, .ref a16, .ref a17, .ref a18, .ref a19, .ref a20, .ref a21, .ref a22, .ref a23])), (a12, .inl (E.2.2 0, 36, .inl g3)), (a13, .inl (E.2.2 2, 12, .inr (.inl g7))), (a14, .inl (E.2.2 0, 6, .inl (fun _ => 0))), (a15, .inl (E.2.2 0, 6, .inl (fun _ => 0))), (a16, .inl (E.2.2 0, 6, .inl (fun _ => 0))), (a17, .inl (E.2.2 0, 10, .inl (fun _ => 0))), (a18, .inl (E.2.2 0, 10, .inl (fun _ => 0))), (a19, .inl (E.2.2 0, 10, .inl (fun _ => 0))), (a20, .inl (E.2.2 0, 10, .inl (fun _ => 0))), (a21, .inl (E.2.2 0, 10, .inl (fun _ => 0))), (a22, .inl (E.2.2 0, 10, .inl (fun _ => 0))), (a23, .inl (E.2.2 0, 60, .inl (fun _ => 0))), (a1, .inr (7, [.int 0, .int 0, .int 0, .int 0, .int 0, .int 0, .ref a24, .ref a25, .ref a2, .ref a3, .ref a4, .ref a5, .ref a6, .ref a7, .ref a8, .ref a9, .ref a10, .ref a11])), (a24, .inl (E.2.2 0, 36, .inl f0)), (a25, .inl (E.2.2 2, 12, .inr (.inl f1)))] 0 0
  refine mp_run hF mp_tabX7_ok [mp_i (.aload_n 1), mp_h (.getfield 19) [8, 23], mp_c (.iconst 0) 0, mp_i (.aload_n 0), mp_h (.getfield 19) [8, 10], mp_c (.iconst 0) 0, mp_c (.bipush 6) 6] (by decide +kernel) ?_
  refine And.intro rfl (And.intro rfl ?_)
  refine And.intro rfl (And.intro rfl ?_)
  show mp_W E X 2 96 [(0, .ref a0), (1, .ref a1)] [.int 6, .int 0, .ref a14, .int 0, .ref a2] [(a2, .inl (E.2.2 0, 6, .inl (fun _ => 0))), (a3, .inl (E.2.2 0, 6, .inl (fun _ => 0))), (a4, .inl (E.2.2 0, 6, .inl (fun _ => 0))), (a5, .inl (E.2.2 0, 10, .inl (fun _ => 0))), (a6, .inl (E.2.2 0, 10, .inl (fun _ => 0))), (a7, .inl (E.2.2 0, 10, .inl (fun _ => 0))), (a8, .inl (E.2.2 0, 10, .inl (fun _ => 0))), (a9, .inl (E.2.2 0, 10, .inl (fun _ => 0))), (a10, .inl (E.2.2 0, 10, .inl (fun _ => 0))), (a11, .inl (E.2.2 0, 60, .inl (fun _ => 0))), (a0, .inr (7, [.int 0, .int 0, .int 0, .int 0, .int 0, .int 0, .ref a12, .ref a13, .ref a14, .ref a15, .ref a16, .ref a17, .ref a18, .ref a19, .ref a20, .ref a21, .ref a22, .ref a23])), (a12, .inl (E.2.2 0, 36, .inl g3)), (a13, .inl (E.2.2 2, 12, .inr (.inl g7))), (a14, .inl (E.2.2 0, 6, .inl (fun _ => 0))), (a15, .inl (E.2.2 0, 6, .inl (fun _ => 0))), (a16, .inl (E.2.2 0, 6, .inl (fun _ => 0))), (a17, .inl (E.2.2 0, 10, .inl (fun _ => 0))), (a18, .inl (E.2.2 0, 10, .inl (fun _ => 0))), (a19, .inl (E.2.2 0, 10, .inl (fun _ => 0))), (a20, .inl (E.2.2 0, 10, .inl (fun _ => 0))), (a21, .inl (E.2.2 0, 10, .inl (fun _ => 0))), (a22, .inl (E.2.2 0, 10, .inl (fun _ => 0))), (a23, .inl (E.2.2 0, 60, .inl (fun _ => 0))), (a1, .inr (7, [.int 0, .int 0, .int 0, .int 0, .int 0, .int 0, .ref a24, .ref a25, .ref a2, .ref a3, .ref a4, .ref a5, .ref a6, .ref a7, .ref a8, .ref a9, .ref a10, .ref a11])), (a24, .inl (E.2.2 0, 36, .inl f0)), (a25, .inl (E.2.2 2, 12, .inr (.inl f1)))] 0 0
  refine mp_copyi hF (idx := 77) (mp_gm (j := 3113) (by decide +kernel)) 0 13 rfl rfl (by decide) (by decide) (by decide) (by decide) (by decide) ⟨(Nat.le_of_ble_eq_true rfl), (Nat.le_of_ble_eq_true rfl)⟩ (by decide +kernel) (fun g9 h10 => ?_)
  obtain rfl : g9 = (fun _ => 0) := h10.trans (mp_cpy0 _ _ _)
  show mp_W E X 2 99 [(0, .ref a0), (1, .ref a1)] [] [(a2, .inl (E.2.2 0, 6, .inl (fun _ => 0))), (a3, .inl (E.2.2 0, 6, .inl (fun _ => 0))), (a4, .inl (E.2.2 0, 6, .inl (fun _ => 0))), (a5, .inl (E.2.2 0, 10, .inl (fun _ => 0))), (a6, .inl (E.2.2 0, 10, .inl (fun _ => 0))), (a7, .inl (E.2.2 0, 10, .inl (fun _ => 0))), (a8, .inl (E.2.2 0, 10, .inl (fun _ => 0))), (a9, .inl (E.2.2 0, 10, .inl (fun _ => 0))), (a10, .inl (E.2.2 0, 10, .inl (fun _ => 0))), (a11, .inl (E.2.2 0, 60, .inl (fun _ => 0))), (a0, .inr (7, [.int 0, .int 0, .int 0, .int 0, .int 0, .int 0, .ref a12, .ref a13, .ref a14, .ref a15, .ref a16, .ref a17, .ref a18, .ref a19, .ref a20, .ref a21, .ref a22, .ref a23])), (a12, .inl (E.2.2 0, 36, .inl g3)), (a13, .inl (E.2.2 2, 12, .inr (.inl g7))), (a14, .inl (E.2.2 0, 6, .inl (fun _ => 0))), (a15, .inl (E.2.2 0, 6, .inl (fun _ => 0))), (a16, .inl (E.2.2 0, 6, .inl (fun _ => 0))), (a17, .inl (E.2.2 0, 10, .inl (fun _ => 0))), (a18, .inl (E.2.2 0, 10, .inl (fun _ => 0))), (a19, .inl (E.2.2 0, 10, .inl (fun _ => 0))), (a20, .inl (E.2.2 0, 10, .inl (fun _ => 0))), (a21, .inl (E.2.2 0, 10, .inl (fun _ => 0))), (a22, .inl (E.2.2 0, 10, .inl (fun _ => 0))), (a23, .inl (E.2.2 0, 60, .inl (fun _ => 0))), (a1, .inr (7, [.int 0, .int 0, .int 0, .int 0, .int 0, .int 0, .ref a24, .ref a25, .ref a2, .ref a3, .ref a4, .ref a5, .ref a6, .ref a7, .ref a8, .ref a9, .ref a10, .ref a11])), (a24, .inl (E.2.2 0, 36, .inl f0)), (a25, .inl (E.2.2 2, 12, .inr (.inl f1)))] 0 0
  refine mp_run hF mp_tabX7_ok [mp_i (.aload_n 1), mp_h (.getfield 22) [9, 23], mp_c (.iconst 0) 0, mp_i (.aload_n 0), mp_h (.getfield 22) [9, 10], mp_c (.iconst 0) 0, mp_c (.bipush 6) 6] (by decide +kernel) ?_
  refine And.intro rfl (And.intro rfl ?_)
  refine And.intro rfl (And.intro rfl ?_)
  show mp_W E X 2 111 [(0, .ref a0), (1, .ref a1)] [.int 6, .int 0, .ref a15, .int 0, .ref a3] [(a2, .inl (E.2.2 0, 6, .inl (fun _ => 0))), (a3, .inl (E.2.2 0, 6, .inl (fun _ => 0))), (a4, .inl (E.2.2 0, 6, .inl (fun _ => 0))), (a5, .inl (E.2.2 0, 10, .inl (fun _ => 0))), (a6, .inl (E.2.2 0, 10, .inl (fun _ => 0))), (a7, .inl (E.2.2 0, 10, .inl (fun _ => 0))), (a8, .inl (E.2.2 0, 10, .inl (fun _ => 0))), (a9, .inl (E.2.2 0, 10, .inl (fun _ => 0))), (a10, .inl (E.2.2 0, 10, .inl (fun _ => 0))), (a11, .inl (E.2.2 0, 60, .inl (fun _ => 0))), (a0, .inr (7, [.int 0, .int 0, .int 0, .int 0, .int 0, .int 0, .ref a12, .ref a13, .ref a14, .ref a15, .ref a16, .ref a17, .ref a18, .ref a19, .ref a20, .ref a21, .ref a22, .ref a23])), (a12, .inl (E.2.2 0, 36, .inl g3)), (a13, .inl (E.2.2 2, 12, .inr (.inl g7))), (a14, .inl (E.2.2 0, 6, .inl (fun _ => 0))), (a15, .inl (E.2.2 0, 6, .inl (fun _ => 0))), (a16, .inl (E.2.2 0, 6, .inl (fun _ => 0))), (a17, .inl (E.2.2 0, 10, .inl (fun _ => 0))), (a18, .inl (E.2.2 0, 10, .inl (fun _ => 0))), (a19, .inl (E.2.2 0, 10, .inl (fun _ => 0))), (a20, .inl (E.2.2 0, 10, .inl (fun _ => 0))), (a21, .inl (E.2.2 0, 10, .inl (fun _ => 0))), (a22, .inl (E.2.2 0, 10, .inl (fun _ => 0))), (a23, .inl (E.2.2 0, 60, .inl (fun _ => 0))), (a1, .inr (7, [.int 0, .int 0, .int 0, .int 0, .int 0, .int 0, .ref a24, .ref a25, .ref a2, .ref a3, .ref a4, .ref a5, .ref a6, .ref a7, .ref a8, .ref a9, .ref a10, .ref a11])), (a24, .inl (E.2.2 0, 36, .inl f0)), (a25, .inl (E.2.2 2, 12, .inr (.inl f1)))] 0 0
  refine mp_copyi hF (idx := 77) (mp_gm (j := 3113) (by decide +kernel)) 1 14 rfl rfl (by decide) (by decide) (by decide) (by decide) (by decide) ⟨(Nat.le_of_ble_eq_true rfl), (Nat.le_of_ble_eq_true rfl)⟩ (by decide +kernel) (fun g11 h12 => ?_)
  obtain rfl : g11 = (fun _ => 0) := h12.trans (mp_cpy0 _ _ _)
  show mp_W E X 2 114 [(0, .ref a0), (1, .ref a1)] [] [(a2, .inl (E.2.2 0, 6, .inl (fun _ => 0))), (a3, .inl (E.2.2 0, 6, .inl (fun _ => 0))), (a4, .inl (E.2.2 0, 6, .inl (fun _ => 0))), (a5, .inl (E.2.2 0, 10, .inl (fun _ => 0))), (a6, .inl (E.2.2 0, 10, .inl (fun _ => 0))), (a7, .inl (E.2.2 0, 10, .inl (fun _ => 0))), (a8, .inl (E.2.2 0, 10, .inl (fun _ => 0))), (a9, .inl (E.2.2 0, 10, .inl (fun _ => 0))), (a10, .inl (E.2.2 0, 10, .inl (fun _ => 0))), (a11, .inl (E.2.2 0, 60, .inl (fun _ => 0))), (a0, .inr (7, [.int 0, .int 0, .int 0, .int 0, .int 0, .int 0, .ref a12, .ref a13, .ref a14, .ref a15, .ref a16, .ref a17, .ref a18, .ref a19, .ref a20, .ref a21, .ref a22, .ref a23])), (a12, .inl (E.2.2 0, 36, .inl g3)), (a13, .inl (E.2.2 2, 12, .inr (.inl g7))), (a14, .inl (E.2.2 0, 6, .inl (fun _ => 0))), (a15, .inl (E.2.2 0, 6, .inl (fun _ => 0))), (a16, .inl (E.2.2 0, 6, .inl (fun _ => 0))), (a17, .inl (E.2.2 0, 10, .inl (fun _ => 0))), (a18, .inl (E.2.2 0, 10, .inl (fun _ => 0))), (a19, .inl (E.2.2 0, 10, .inl (fun _ => 0))), (a20, .inl (E.2.2 0, 10, .inl (fun _ => 0))), (a21, .inl (E.2.2 0, 10, .inl (fun _ => 0))), (a22, .inl (E.2.2 0, 10, .inl (fun _ => 0))), (a23, .inl (E.2.2 0, 60, .inl (fun _ => 0))), (a1, .inr (7, [.int 0, .int 0, .int 0, .int 0, .int 0, .int 0, .ref a24, .ref a25, .ref a2, .ref a3, .ref a4, .ref a5, .ref a6, .ref a7, .ref a8, .ref a9, .ref a10, .ref a11])), (a24, .inl (E.2.2 0, 36, .inl f0)), (a25, .inl (E.2.2 2, 12, .inr (.inl f1)))] 0 0
  refine mp_run hF mp_tabX7_ok [mp_i (.aload_n 1), mp_h (.getfield 25) [10, 23], mp_c (.iconst 0) 0, mp_i (.aload_n 0), mp_h (.getfield 25) [10, 10], mp_c (.iconst 0) 0, mp_c (.bipush 6) 6] (by decide +kernel) ?_
  refine And.intro rfl (And.intro rfl ?_)
  refine And.intro rfl (And.intro rfl ?_)
  show mp_W E X 2 126 [(0, .ref a0), (1, .ref a1)] [.int 6, .int 0, .ref a16, .int 0, .ref a4] [(a2, .inl (E.2.2 0, 6, .inl (fun _ => 0))), (a3, .inl (E.2.2 0, 6, .inl (fun _ => 0))), (a4, .inl (E.2.2 0, 6, .inl (fun _ => 0))), (a5, .inl (E.2.2 0, 10, .inl (fun _ => 0))), (a6, .inl (E.2.2 0, 10, .inl (fun _ => 0))), (a7, .inl (E.2.2 0, 10, .inl (fun _ => 0))), (a8, .inl (E.2.2 0, 10, .inl (fun _ => 0))), (a9, .inl (E.2.2 0, 10, .inl (fun _ => 0))), (a10, .inl (E.2.2 0, 10, .inl (fun _ => 0))), (a11, .inl (E.2.2 0, 60, .inl (fun _ => 0))), (a0, .inr (7, [.int 0, .int 0, .int 0, .int 0, .int 0, .int 0, .ref a12, .ref a13, .ref a14, .ref a15, .ref a16, .ref a17, .ref a18, .ref a19, .ref a20, .ref a21, .ref a22, .ref a23])), (a12, .inl (E.2.2 0, 36, .inl g3)), (a13, .inl (E.2.2 2, 12, .inr (.inl g7))), (a14, .inl (E.2.2 0, 6, .inl (fun _ => 0))), (a15, .inl (E.2.2 0, 6, .inl (fun _ => 0))), (a16, .inl (E.2.2 0, 6, .inl (fun _ => 0))), (a17, .inl (E.2.2 0, 10, .inl (fun _ => 0))), (a18, .inl (E.2.2 0, 10, .inl (fun _ => 0))), (a19, .inl (E.2.2 0, 10, .inl (fun _ => 0))), (a20, .inl (E.2.2 0, 10, .inl (fun _ => 0))), (a21, .inl (E.2.2 0, 10, .inl (fun _ => 0))), (a22, .inl (E.2.2 0, 10, .inl (fun _ => 0))), (a23, .inl (E.2.2 0, 60, .inl (fun _ => 0))), (a1, .inr (7, [.int 0, .int 0, .int 0, .int 0, .int 0, .int 0, .ref a24, .ref a25, .ref a2, .ref a3, .ref a4, .ref a5, .ref a6, .ref a7, .ref a8, .ref a9, .ref a10, .ref a11])), (a24, .inl (E.2.2 0, 36, .inl f0)), (a25, .inl (E.2.2 2, 12, .inr (.inl f1)))] 0 0
  refine mp_copyi hF (idx := 77) (mp_gm (j := 3113) (by decide +kernel)) 2 15 rfl rfl (by decide) (by decide) (by decide) (by decide) (by decide) ⟨(Nat.le_of_ble_eq_true rfl), (Nat.le_of_ble_eq_true rfl)⟩ (by decide +kernel) (fun g13 h14 => ?_)
  obtain rfl : g13 = (fun _ => 0) := h14.trans (mp_cpy0 _ _ _)
  show mp_W E X 2 129 [(0, .ref a0), (1, .ref a1)] [] [(a2, .inl (E.2.2 0, 6, .inl (fun _ => 0))), (a3, .inl (E.2.2 0, 6, .inl (fun _ => 0))), (a4, .inl (E.2.2 0, 6, .inl (fun _ => 0))), (a5, .inl (E.2.2 0, 10, .inl (fun _ => 0))), (a6, .inl (E.2.2 0, 10, .inl (fun _ => 0))), (a7, .inl (E.2.2 0, 10, .inl (fun _ => 0))), (a8, .inl (E.2.2 0, 10, .inl (fun _ => 0))), (a9, .inl (E.2.2 0, 10, .inl (fun _ => 0))), (a10, .inl (E.2.2 0, 10, .inl (fun _ => 0))), (a11, .inl (E.2.2 0, 60, .inl (fun _ => 0))), (a0, .inr (7, [.int 0, .int 0, .int 0, .int 0, .int 0, .int 0, .ref a12, .ref a13, .ref a14, .ref a15, .ref a16, .ref a17, .ref a18, .ref a19, .ref a20, .ref a21, .ref a22, .ref a23])), (a12, .inl (E.2.2 0, 36, .inl g3)), (a13, .inl (E.2.2 2, 12, .inr (.inl g7))), (a14, .inl (E.2.2 0, 6, .inl (fun _ => 0))), (a15, .inl (E.2.2 0, 6, .inl (fun _ => 0))), (a16, .inl (E.2.2 0, 6, .inl (fun _ => 0))), (a17, .inl (E.2.2 0, 10, .inl (fun _ => 0))), (a18, .inl (E.2.2 0, 10, .inl (fun _ => 0))), (a19, .inl (E.2.2 0, 10, .inl (fun _ => 0))), (a20, .inl (E.2.2 0, 10, .inl (fun _ => 0))), (a21, .inl (E.2.2 0, 10, .inl (fun _ => 0))), (a22, .inl (E.2.2 0, 10, .inl (fun _ => 0))), (a23, .inl (E.2.2 0, 60, .inl (fun _ => 0))), (a1, .inr (7, [.int 0, .int 0, .int 0, .int 0, .int 0, .int 0, .ref a24, .ref a25, .ref a2, .ref a3, .ref a4, .ref a5, .ref a6, .ref a7, .ref a8, .ref a9, .ref a10, .ref a11])), (a24, .inl (E.2.2 0, 36, .inl f0)), (a25, .inl (E.2.2 2, 12, .inr (.inl f1)))] 0 0
  refine mp_run hF mp_tabX7_ok [mp_i (.aload_n 1), mp_h (.getfield 28) [11, 23], mp_c (.iconst 0) 0, mp_i (.aload_n 0), mp_h (.getfield 28) [11, 10], mp_c (.iconst 0) 0, mp_c (.bipush 10) 10] (by decide +kernel) ?_
  refine And.intro rfl (And.intro rfl ?_)
  refine And.intro rfl (And.intro rfl ?_)
  show mp_W E X 2 141 [(0, .ref a0), (1, .ref a1)] [.int 10, .int 0, .ref a17, .int 0, .ref a5] [(a2, .inl (E.2.2 0, 6, .inl (fun _ => 0))), (a3, .inl (E.2.2 0, 6, .inl (fun _ => 0))), (a4, .inl (E.2.2 0, 6, .inl (fun _ => 0))), (a5, .inl (E.2.2 0, 10, .inl (fun _ => 0))), (a6, .inl (E.2.2 0, 10, .inl (fun _ => 0))), (a7, .inl (E.2.2 0, 10, .inl (fun _ => 0))), (a8, .inl (E.2.2 0, 10, .inl (fun _ => 0))), (a9, .inl (E.2.2 0, 10, .inl (fun _ => 0))), (a10, .inl (E.2.2 0, 10, .inl (fun _ => 0))), (a11, .inl (E.2.2 0, 60, .inl (fun _ => 0))), (a0, .inr (7, [.int 0, .int 0, .int 0, .int 0, .int 0, .int 0, .ref a12, .ref a13, .ref a14, .ref a15, .ref a16, .ref a17, .ref a18, .ref a19, .ref a20, .ref a21, .ref a22, .ref a23])), (a12, .inl (E.2.2 0, 36, .inl g3)), (a13, .inl (E.2.2 2, 12, .inr (.inl g7))), (a14, .inl (E.2.2 0, 6, .inl (fun _ => 0))), (a15, .inl (E.2.2 0, 6, .inl (fun _ => 0))), (a16, .inl (E.2.2 0, 6, .inl (fun _ => 0))), (a17, .inl (E.2.2 0, 10, .inl (fun _ => 0))), (a18, .inl (E.2.2 0, 10, .inl (fun _ => 0))), (a19, .inl (E.2.2 0, 10, .inl (fun _ => 0))), (a20, .inl (E.2.2 0, 10, .inl (fun _ => 0))), (a21, .inl (E.2.2 0, 10, .inl (fun _ => 0))), (a22, .inl (E.2.2 0, 10, .inl (fun _ => 0))), (a23, .inl (E.2.2 0, 60, .inl (fun _ => 0))), (a1, .inr (7, [.int 0, .int 0, .int 0, .int 0, .int 0, .int 0, .ref a24, .ref a25, .ref a2, .ref a3, .ref a4, .ref a5, .ref a6, .ref a7, .ref a8, .ref a9, .ref a10, .ref a11])), (a24, .inl (E.2.2 0, 36, .inl f0)), (a25, .inl (E.2.2 2, 12, .inr (.inl f1)))] 0 0
  refine mp_copyi hF (idx := 77) (mp_gm (j := 3113) (by decide +kernel)) 3 16 rfl rfl (by decide) (by decide) (by decide) (by decide) (by decide) ⟨(Nat.le_of_ble_eq_true rfl), (Nat.le_of_ble_eq_true rfl)⟩ (by decide +kernel) (fun g15 h16 => ?_)
  obtain rfl : g15 = (fun _ => 0) := h16.trans (mp_cpy0 _ _ _)
  show mp_W E X 2 144 [(0, .ref a0), (1, .ref a1)] [] [(a2, .inl (E.2.2 0, 6, .inl (fun _ => 0))), (a3, .inl (E.2.2 0, 6, .inl (fun _ => 0))), (a4, .inl (E.2.2 0, 6, .inl (fun _ => 0))), (a5, .inl (E.2.2 0, 10, .inl (fun _ => 0))), (a6, .inl (E.2.2 0, 10, .inl (fun _ => 0))), (a7, .inl (E.2.2 0, 10, .inl (fun _ => 0))), (a8, .inl (E.2.2 0, 10, .inl (fun _ => 0))), (a9, .inl (E.2.2 0, 10, .inl (fun _ => 0))), (a10, .inl (E.2.2 0, 10, .inl (fun _ => 0))), (a11, .inl (E.2.2 0, 60, .inl (fun _ => 0))), (a0, .inr (7, [.int 0, .int 0, .int 0, .int 0, .int 0, .int 0, .ref a12, .ref a13, .ref a14, .ref a15, .ref a16, .ref a17, .ref a18, .ref a19, .ref a20, .ref a21, .ref a22, .ref a23])), (a12, .inl (E.2.2 0, 36, .inl g3)), (a13, .inl (E.2.2 2, 12, .inr (.inl g7))), (a14, .inl (E.2.2 0, 6, .inl (fun _ => 0))), (a15, .inl (E.2.2 0, 6, .inl (fun _ => 0))), (a16, .inl (E.2.2 0, 6, .inl (fun _ => 0))), (a17, .inl (E.2.2 0, 10, .inl (fun _ => 0))), (a18, .inl (E.2.2 0, 10, .inl (fun _ => 0))), (a19, .inl (E.2.2 0, 10, .inl (fun _ => 0))), (a20, .inl (E.2.2 0, 10, .inl (fun _ => 0))), (a21, .inl (E.2.2 0, 10, .inl (fun _ => 0))), (a22, .inl (E.2.2 0, 10, .inl (fun _ => 0))), (a23, .inl (E.2.2 0, 60, .inl (fun _ => 0))), (a1, .inr (7, [.int 0, .int 0, .int 0, .int 0, .int 0, .int 0, .ref a24, .ref a25, .ref a2, .ref a3, .ref a4, .ref a5, .ref a6, .ref a7, .ref a8, .ref a9, .ref a10, .ref a11])), (a24, .inl (E.2.2 0, 36, .inl f0)), (a25, .inl (E.2.2 2, 12, .inr (.inl f1)))] 0 0
  refine mp_run hF mp_tabX7_ok [mp_i (.aload_n 1), mp_h (.getfield 31) [12, 23], mp_c (.iconst 0) 0, mp_i (.aload_n 0), mp_h (.getfield 31) [12, 10], mp_c (.iconst 0) 0, mp_c (.bipush 10) 10] (by decide +kernel) ?_
  refine And.intro rfl (And.intro rfl ?_)
  refine And.intro rfl (And.intro rfl ?_)
  show mp_W E X 2 156 [(0, .ref a0), (1, .ref a1)] [.int 10, .int 0, .ref a18, .int 0, .ref a6] [(a2, .inl (E.2.2 0, 6, .inl (fun _ => 0))), (a3, .inl (E.2.2 0, 6, .inl (fun _ => 0))), (a4, .inl (E.2.2 0, 6, .inl (fun _ => 0))), (a5, .inl (E.2.2 0, 10, .inl (fun _ => 0))), (a6, .inl (E.2.2 0, 10, .inl (fun _ => 0))), (a7, .inl (E.2.2 0, 10, .inl (fun _ => 0))), (a8, .inl (E.2.2 0, 10, .inl (fun _ => 0))), (a9, .inl (E.2.2 0, 10, .inl (fun _ => 0))), (a10, .inl (E.2.2 0, 10, .inl (fun _ => 0))), (a11, .inl (E.2.2 0, 60, .inl (fun _ => 0))), (a0, .inr (7, [.int 0, .int 0, .int 0, .int 0, .int 0, .int 0, .ref a12, .ref a13, .ref a14, .ref a15, .ref a16, .ref a17, .ref a18, .ref a19, .ref a20, .ref a21, .ref a22, .ref a23])), (a12, .inl (E.2.2 0, 36, .inl g3)), (a13, .inl (E.2.2 2, 12, .inr (.inl g7))), (a14, .inl (E.2.2 0, 6, .inl (fun _ => 0))), (a15, .inl (E.2.2 0, 6, .inl (fun _ => 0))), (a16, .inl (E.2.2 0, 6, .inl (fun _ => 0))), (a17, .inl (E.2.2 0, 10, .inl (fun _ => 0))), (a18, .inl (E.2.2 0, 10, .inl (fun _ => 0))), (a19, .inl (E.2.2 0, 10, .inl (fun _ => 0))), (a20, .inl (E.2.2 0, 10, .inl (fun _ => 0))), (a21, .inl (E.2.2 0, 10, .inl (fun _ => 0))), (a22, .inl (E.2.2 0, 10, .inl (fun _ => 0))), (a23, .inl (E.2.2 0, 60, .inl (fun _ => 0))), (a1, .inr (7, [.int 0, .int 0, .int 0, .int 0, .int 0, .int 0, .ref a24, .ref a25, .ref a2, .ref a3, .ref a4, .ref a5, .ref a6, .ref a7, .ref a8, .ref a9, .ref a10, .ref a11])), (a24, .inl (E.2.2 0, 36, .inl f0)), (a25, .inl (E.2.2 2, 12, .inr (.inl f1)))] 0 0
  refine mp_copyi hF (idx := 77) (mp_gm (j := 3113) (by decide +kernel)) 4 17 rfl rfl (by decide) (by decide) (by decide) (by decide) (by decide) ⟨(Nat.le_of_ble_eq_true rfl), (Nat.le_of_ble_eq_true rfl)⟩ (by decide +kernel) (fun g17 h18 => ?_)
  obtain rfl : g17 = (fun _ => 0) := h18.trans (mp_cpy0 _ _ _)
  show mp_W E X 2 159 [(0, .ref a0), (1, .ref a1)] [] [(a2, .inl (E.2.2 0, 6, .inl (fun _ => 0))), (a3, .inl (E.2.2 0, 6, .inl (fun _ => 0))), (a4, .inl (E.2.2 0, 6, .inl (fun _ => 0))), (a5, .inl (E.2.2 0, 10, .inl (fun _ => 0))), (a6, .inl (E.2.2 0, 10, .inl (fun _ => 0))), (a7, .inl (E.2.2 0, 10, .inl (fun _ => 0))), (a8, .inl (E.2.2 0, 10, .inl (fun _ => 0))), (a9, .inl (E.2.2 0, 10, .inl (fun _ => 0))), (a10, .inl (E.2.2 0, 10, .inl (fun _ => 0))), (a11, .inl (E.2.2 0, 60, .inl (fun _ => 0))), (a0, .inr (7, [.int 0, .int 0, .int 0, .int 0, .int 0, .int 0, .ref a12, .ref a13, .ref a14, .ref a15, .ref a16, .ref a17, .ref a18, .ref a19, .ref a20, .ref a21, .ref a22, .ref a23])), (a12, .inl (E.2.2 0, 36, .inl g3)), (a13, .inl (E.2.2 2, 12, .inr (.inl g7))), (a14, .inl (E.2.2 0, 6, .inl (fun _ => 0))), (a15, .inl (E.2.2 0, 6, .inl (fun _ => 0))), (a16, .inl (E.2.2 0, 6, .inl (fun _ => 0))), (a17, .inl (E.2.2 0, 10, .inl (fun _ => 0))), (a18, .inl (E.2.2 0, 10, .inl (fun _ => 0))), (a19, .inl (E.2.2 0, 10, .inl (fun _ => 0))), (a20, .inl (E.2.2 0, 10, .inl (fun _ => 0))), (a21, .inl (E.2.2 0, 10, .inl (fun _ => 0))), (a22, .inl (E.2.2 0, 10, .inl (fun _ => 0))), (a23, .inl (E.2.2 0, 60, .inl (fun _ => 0))), (a1, .inr (7, [.int 0, .int 0, .int 0, .int 0, .int 0, .int 0, .ref a24, .ref a25, .ref a2, .ref a3, .ref a4, .ref a5, .ref a6, .ref a7, .ref a8, .ref a9, .ref a10, .ref a11])), (a24, .inl (E.2.2 0, 36, .inl f0)), (a25, .inl (E.2.2 2, 12, .inr (.inl f1)))] 0 0
  refine mp_run hF mp_tabX7_ok [mp_i (.aload_n 1), mp_h (.getfield 34) [13, 23], mp_c (.iconst 0) 0, mp_i (.aload_n 0), mp_h (.getfield 34) [13, 10], mp_c (.iconst 0) 0, mp_c (.bipush 10) 10] (by decide +kernel) ?_
  refine And.intro rfl (And.intro rfl ?_)
  refine And.intro rfl (And.intro rfl ?_)
  show mp_W E X 2 171 [(0, .ref a0), (1, .ref a1)] [.int 10, .int 0, .ref a19, .int 0, .ref a7] [(a2, .inl (E.2.2 0, 6, .inl (fun _ => 0))), (a3, .inl (E.2.2 0, 6, .inl (fun _ => 0))), (a4, .inl (E.2.2 0, 6, .inl (fun _ => 0))), (a5, .inl (E.2.2 0, 10, .inl (fun _ => 0))), (a6, .inl (E.2.2 0, 10, .inl (fun _ => 0))), (a7, .inl (E.2.2 0, 10, .inl (fun _ => 0))), (a8, .inl (E.2.2 0, 10, .inl (fun _ => 0))), (a9, .inl (E.2.2 0, 10, .inl (fun _ => 0))), (a10, .inl (E.2.2 0, 10, .inl (fun _ => 0))), (a11, .inl (E.2.2 0, 60, .inl (fun _ => 0))), (a0, .inr (7, [.int 0, .int 0, .int 0, .int 0, .int 0, .int 0, .ref a12, .ref a13, .ref a14, .ref a15, .ref a16, .ref a17, .ref a18, .ref a19, .ref a20, .ref a21, .ref a22, .ref a23])), (a12, .inl (E.2.2 0, 36, .inl g3)), (a13, .inl (E.2.2 2, 12, .inr (.inl g7))), (a14, .inl (E.2.2 0, 6, .inl (fun _ => 0))), (a15, .inl (E.2.2 0, 6, .inl (fun _ => 0))), (a16, .inl (E.2.2 0, 6, .inl (fun _ => 0))), (a17, .inl (E.2.2 0, 10, .inl (fun _ => 0))), (a18, .inl (E.2.2 0, 10, .inl (fun _ => 0))), (a19, .inl (E.2.2 0, 10, .inl (fun _ => 0))), (a20, .inl (E.2.2 0, 10, .inl (fun _ => 0))), (a21, .inl (E.2.2 0, 10, .inl (fun _ => 0))), (a22, .inl (E.2.2 0, 10, .inl (fun _ => 0))), (a23, .inl (E.2.2 0, 60, .inl (fun _ => 0))), (a1, .inr (7, [.int 0, .int 0, .int 0, .int 0, .int 0, .int 0, .ref a24, .ref a25, .ref a2, .ref a3, .ref a4, .ref a5, .ref a6, .ref a7, .ref a8, .ref a9, .ref a10, .ref a11])), (a24, .inl (E.2.2 0, 36, .inl f0)), (a25, .inl (E.2.2 2, 12, .inr (.inl f1)))] 0 0
  refine mp_copyi hF (idx := 77) (mp_gm (j := 3113) (by decide +kernel)) 5 18 rfl rfl (by decide) (by decide) (by decide) (by decide) (by decide) ⟨(Nat.le_of_ble_eq_true rfl), (Nat.le_of_ble_eq_true rfl)⟩ (by decide +kernel) (fun g19 h20 => ?_)
  obtain rfl : g19 = (fun _ => 0) := h20.trans (mp_cpy0 _ _ _)
  show mp_W E X 2 174 [(0, .ref a0), (1, .ref a1)] [] [(a2, .inl (E.2.2 0, 6, .inl (fun _ => 0))), (a3, .inl (E.2.2 0, 6, .inl (fun _ => 0))), (a4, .inl (E.2.2 0, 6, .inl (fun _ => 0))), (a5, .inl (E.2.2 0, 10, .inl (fun _ => 0))), (a6, .inl (E.2.2 0, 10, .inl (fun _ => 0))), (a7, .inl (E.2.2 0, 10, .inl (fun _ => 0))), (a8, .inl (E.2.2 0, 10, .inl (fun _ => 0))), (a9, .inl (E.2.2 0, 10, .inl (fun _ => 0))), (a10, .inl (E.2.2 0, 10, .inl (fun _ => 0))), (a11, .inl (E.2.2 0, 60, .inl (fun _ => 0))), (a0, .inr (7, [.int 0, .int 0, .int 0, .int 0, .int 0, .int 0, .ref a12, .ref a13, .ref a14, .ref a15, .ref a16, .ref a17, .ref a18, .ref a19, .ref a20, .ref a21, .ref a22, .ref a23])), (a12, .inl (E.2.2 0, 36, .inl g3)), (a13, .inl (E.2.2 2, 12, .inr (.inl g7))), (a14, .inl (E.2.2 0, 6, .inl (fun _ => 0))), (a15, .inl (E.2.2 0, 6, .inl (fun _ => 0))), (a16, .inl (E.2.2 0, 6, .inl (fun _ => 0))), (a17, .inl (E.2.2 0, 10, .inl (fun _ => 0))), (a18, .inl (E.2.2 0, 10, .inl (fun _ => 0))), (a19, .inl (E.2.2 0, 10, .inl (fun _ => 0))), (a20, .inl (E.2.2 0, 10, .inl (fun _ => 0))), (a21, .inl (E.2.2 0, 10, .inl (fun _ => 0))), (a22, .inl (E.2.2 0, 10, .inl (fun _ => 0))), (a23, .inl (E.2.2 0, 60, .inl (fun _ => 0))), (a1, .inr (7, [.int 0, .int 0, .int 0, .int 0, .int 0, .int 0, .ref a24, .ref a25, .ref a2, .ref a3, .ref a4, .ref a5, .ref a6, .ref a7, .ref a8, .ref a9, .ref a10, .ref a11])), (a24, .inl (E.2.2 0, 36, .inl f0)), (a25, .inl (E.2.2 2, 12, .inr (.inl f1)))] 0 0
  refine mp_run hF mp_tabX7_ok [mp_i (.aload_n 1), mp_h (.getfield 37) [14, 23], mp_c (.iconst 0) 0, mp_i (.aload_n 0), mp_h (.getfield 37) [14, 10], mp_c (.iconst 0) 0, mp_c (.bipush 10) 10] (by decide +kernel) ?_
  refine And.intro rfl (And.intro rfl ?_)
  refine And.intro rfl (And.intro rfl ?_)
  show mp_W E X 2 186 [(0, .ref a0), (1, .ref a1)] [.int 10, .int 0, .ref a20, .int 0, .ref a8] [(a2, .inl (E.2.2 0, 6, .inl (fun _ => 0))), (a3, .inl (E.2.2 0, 6, .inl (fun _ => 0))), (a4, .inl (E.2.2 0, 6, .inl (fun _ => 0))), (a5, .inl (E.2.2 0, 10, .inl (fun _ => 0))), (a6, .inl (E.2.2 0, 10, .inl (fun _ => 0))), (a7, .inl (E.2.2 0, 10, .inl (fun _ => 0))), (a8, .inl (E.2.2 0, 10, .inl (fun _ => 0))), (a9, .inl (E.2.2 0, 10, .inl (fun _ => 0))), (a10, .inl (E.2.2 0, 10, .inl (fun _ => 0))), (a11, .inl (E.2.2 0, 60, .inl (fun _ => 0))), (a0, .inr (7, [.int 0, .int 0, .int 0, .int 0, .int 0, .int 0, .ref a12, .ref a13, .ref a14, .ref a15, .ref a16, .ref a17, .ref a18, .ref a19, .ref a20, .ref a21, .ref a22, .ref a23])), (a12, .inl (E.2.2 0, 36, .inl g3)), (a13, .inl (E.2.2 2, 12, .inr (.inl g7))), (a14, .inl (E.2.2 0, 6, .inl (fun _ => 0))), (a15, .inl (E.2.2 0, 6, .inl (fun _ => 0))), (a16, .inl (E.2.2 0, 6, .inl (fun _ => 0))), (a17, .inl (E.2.2 0, 10, .inl (fun _ => 0))), (a18, .inl (E.2.2 0, 10, .inl (fun _ => 0))), (a19, .inl (E.2.2 0, 10, .inl (fun _ => 0))), (a20, .inl (E.2.2 0, 10, .inl (fun _ => 0))), (a21, .inl (E.2.2 0, 10, .inl (fun _ => 0))), (a22, .inl (E.2.2 0, 10, .inl (fun _ => 0))), (a23, .inl (E.2.2 0, 60, .inl (fun _ => 0))), (a1, .inr (7, [.int 0, .int 0, .int 0, .int 0, .int 0, .int 0, .ref a24, .ref a25, .ref a2, .ref a3, .ref a4, .ref a5, .ref a6, .ref a7, .ref a8, .ref a9, .ref a10, .ref a11])), (a24, .inl (E.2.2 0, 36, .inl f0)), (a25, .inl (E.2.2 2, 12, .inr (.inl f1)))] 0 0
  refine mp_copyi hF (idx := 77) (mp_gm (j := 3113) (by decide +kernel)) 6 19 rfl rfl (by decide) (by decide) (by decide) (by decide) (by decide) ⟨(Nat.le_of_ble_eq_true rfl), (Nat.le_of_ble_eq_true rfl)⟩ (by decide +kernel) (fun g21 h22 => ?_)
  obtain rfl : g21 = (fun _ => 0) := h22.trans (mp_cpy0 _ _ _)
  show mp_W E X 2 189 [(0, .ref a0), (1, .ref a1)] [] [(a2, .inl (E.2.2 0, 6, .inl (fun _ => 0))), (a3, .inl (E.2.2 0, 6, .inl (fun _ => 0))), (a4, .inl (E.2.2 0, 6, .inl (fun _ => 0))), (a5, .inl (E.2.2 0, 10, .inl (fun _ => 0))), (a6, .inl (E.2.2 0, 10, .inl (fun _ => 0))), (a7, .inl (E.2.2 0, 10, .inl (fun _ => 0))), (a8, .inl (E.2.2 0, 10, .inl (fun _ => 0))), (a9, .inl (E.2.2 0, 10, .inl (fun _ => 0))), (a10, .inl (E.2.2 0, 10, .inl (fun _ => 0))), (a11, .inl (E.2.2 0, 60, .inl (fun _ => 0))), (a0, .inr (7, [.int 0, .int 0, .int 0, .int 0, .int 0, .int 0, .ref a12, .ref a13, .ref a14, .ref a15, .ref a16, .ref a17, .ref a18, .ref a19, .ref a20, .ref a21, .ref a22, .ref a23])), (a12, .inl (E.2.2 0, 36, .inl g3)), (a13, .inl (E.2.2 2, 12, .inr (.inl g7))), (a14, .inl (E.2.2 0, 6, .inl (fun _ => 0))), (a15, .inl (E.2.2 0, 6, .inl (fun _ => 0))), (a16, .inl (E.2.2 0, 6, .inl (fun _ => 0))), (a17, .inl (E.2.2 0, 10, .inl (fun _ => 0))), (a18, .inl (E.2.2 0, 10, .inl (fun _ => 0))), (a19, .inl (E.2.2 0, 10, .inl (fun _ => 0))), (a20, .inl (E.2.2 0, 10, .inl (fun _ => 0))), (a21, .inl (E.2.2 0, 10, .inl (fun _ => 0))), (a22, .inl (E.2.2 0, 10, .inl (fun _ => 0))), (a23, .inl (E.2.2 0, 60, .inl (fun _ => 0))), (a1, .inr (7, [.int 0, .int 0, .int 0, .int 0, .int 0, .int 0, .ref a24, .ref a25, .ref a2, .ref a3, .ref a4, .ref a5, .ref a6, .ref a7, .ref a8, .ref a9, .ref a10, .ref a11])), (a24, .inl (E.2.2 0, 36, .inl f0)), (a25, .inl (E.2.2 2, 12, .inr (.inl f1)))] 0 0
  refine mp_run hF mp_tabX7_ok [mp_i (.aload_n 1), mp_h (.getfield 40) [15, 23], mp_c (.iconst 0) 0, mp_i (.aload_n 0), mp_h (.getfield 40) [15, 10], mp_c (.iconst 0) 0, mp_c (.bipush 10) 10] (by decide +kernel) ?_
  refine And.intro rfl (And.intro rfl ?_)
  refine And.intro rfl (And.intro rfl ?_)
  show mp_W E X 2 201 [(0, .ref a0), (1, .ref a1)] [.int 10, .int 0, .ref a21, .int 0, .ref a9] [(a2, .inl (E.2.2 0, 6, .inl (fun _ => 0))), (a3, .inl (E.2.2 0, 6, .inl (fun _ => 0))), (a4, .inl (E.2.2 0, 6, .inl (fun _ => 0))), (a5, .inl (E.2.2 0, 10, .inl (fun _ => 0))), (a6, .inl (E.2.2 0, 10, .inl (fun _ => 0))), (a7, .inl (E.2.2 0, 10, .inl (fun _ => 0))), (a8, .inl (E.2.2 0, 10, .inl (fun _ => 0))), (a9, .inl (E.2.2 0, 10, .inl (fun _ => 0))), (a10, .inl (E.2.2 0, 10, .inl (fun _ => 0))), (a11, .inl (E.2.2 0, 60, .inl (fun _ => 0))), (a0, .inr (7, [.int 0, .int 0, .int 0, .int 0, .int 0, .int 0, .ref a12, .ref a13, .ref a14, .ref a15, .ref a16, .ref a17, .ref a18, .ref a19, .ref a20, .ref a21, .ref a22, .ref a23])), (a12, .inl (E.2.2 0, 36, .inl g3)), (a13, .inl (E.2.2 2, 12, .inr (.inl g7))), (a14, .inl (E.2.2 0, 6, .inl (fun _ => 0))), (a15, .inl (E.2.2 0, 6, .inl (fun _ => 0))), (a16, .inl (E.2.2 0, 6, .inl (fun _ => 0))), (a17, .inl (E.2.2 0, 10, .inl (fun _ => 0))), (a18, .inl (E.2.2 0, 10, .inl (fun _ => 0))), (a19, .inl (E.2.2 0, 10, .inl (fun _ => 0))), (a20, .inl (E.2.2 0, 10, .inl (fun _ => 0))), (a21, .inl (E.2.2 0, 10, .inl (fun _ => 0))), (a22, .inl (E.2.2 0, 10, .inl (fun _ => 0))), (a23, .inl (E.2.2 0, 60, .inl (fun _ => 0))), (a1, .inr (7, [.int 0, .int 0, .int 0, .int 0, .int 0, .int 0, .ref a24, .ref a25, .ref a2, .ref a3, .ref a4, .ref a5, .ref a6, .ref a7, .ref a8, .ref a9, .ref a10, .ref a11])), (a24, .inl (E.2.2 0, 36, .inl f0)), (a25, .inl (E.2.2 2, 12, .inr (.inl f1)))] 0 0
  refine mp_copyi hF (idx := 77) (mp_gm (j := 3113) (by decide +kernel)) 7 20 rfl rfl (by decide) (by decide) (by decide) (by decide) (by decide) ⟨(Nat.le_of_ble_eq_true rfl), (Nat.le_of_ble_eq_true rfl)⟩ (by decide +kernel) (fun g23 h24 => ?_)
  obtain rfl : g23 = (fun _ => 0) := h24.trans (mp_cpy0 _ _ _)
  show mp_W E X 2 204 [(0, .ref a0), (1, .ref a1)] [] [(a2, .inl (E.2.2 0, 6, .inl (fun _ => 0))), (a3, .inl (E.2.2 0, 6, .inl (fun _ => 0))), (a4, .inl (E.2.2 0, 6, .inl (fun _ => 0))), (a5, .inl (E.2.2 0, 10, .inl (fun _ => 0))), (a6, .inl (E.2.2 0, 10, .inl (fun _ => 0))), (a7, .inl (E.2.2 0, 10, .inl (fun _ => 0))), (a8, .inl (E.2.2 0, 10, .inl (fun _ => 0))), (a9, .inl (E.2.2 0, 10, .inl (fun _ => 0))), (a10, .inl (E.2.2 0, 10, .inl (fun _ => 0))), (a11, .inl (E.2.2 0, 60, .inl (fun _ => 0))), (a0, .inr (7, [.int 0, .int 0, .int 0, .int 0, .int 0, .int 0, .ref a12, .ref a13, .ref a14, .ref a15, .ref a16, .ref a17, .ref a18, .ref a19, .ref a20, .ref a21, .ref a22, .ref a23])), (a12, .inl (E.2.2 0, 36, .inl g3)), (a13, .inl (E.2.2 2, 12, .inr (.inl g7))), (a14, .inl (E.2.2 0, 6, .inl (fun _ => 0))), (a15, .inl (E.2.2 0, 6, .inl (fun _ => 0))), (a16, .inl (E.2.2 0, 6, .inl (fun _ => 0))), (a17, .inl (E.2.2 0, 10, .inl (fun _ => 0))), (a18, .inl (E.2.2 0, 10, .inl (fun _ => 0))), (a19, .inl (E.2.2 0, 10, .inl (fun _ => 0))), (a20, .inl (E.2.2 0, 10, .inl (fun _ => 0))), (a21, .inl (E.2.2 0, 10, .inl (fun _ => 0))), (a22, .inl (E.2.2 0, 10, .inl (fun _ => 0))), (a23, .inl (E.2.2 0, 60, .inl (fun _ => 0))), (a1, .inr (7, [.int 0, .int 0, .int 0, .int 0, .int 0, .int 0, .ref a24, .ref a25, .ref a2, .ref a3, .ref a4, .ref a5, .ref a6, .ref a7, .ref a8, .ref a9, .ref a10, .ref a11])), (a24, .inl (E.2.2 0, 36, .inl f0)), (a25, .inl (E.2.2 2, 12, .inr (.inl f1)))] 0 0
  refine mp_run hF mp_tabX7_ok [mp_i (.aload_n 1), mp_h (.getfield 43) [16, 23], mp_c (.iconst 0) 0, mp_i (.aload_n 0), mp_h (.getfield 43) [16, 10], mp_c (.iconst 0) 0, mp_c (.bipush 10) 10] (by decide +kernel) ?_
  refine And.intro rfl (And.intro rfl ?_)
  refine And.intro rfl (And.intro rfl ?_)
  show mp_W E X 2 216 [(0, .ref a0), (1, .ref a1)] [.int 10, .int 0, .ref a22, .int 0, .ref a10] [(a2, .inl (E.2.2 0, 6, .inl (fun _ => 0))), (a3, .inl (E.2.2 0, 6, .inl (fun _ => 0))), (a4, .inl (E.2.2 0, 6, .inl (fun _ => 0))), (a5, .inl (E.2.2 0, 10, .inl (fun _ => 0))), (a6, .inl (E.2.2 0, 10, .inl (fun _ => 0))), (a7, .inl (E.2.2 0, 10, .inl (fun _ => 0))), (a8, .inl (E.2.2 0, 10, .inl (fun _ => 0))), (a9, .inl (E.2.2 0, 10, .inl (fun _ => 0))), (a10, .inl (E.2.2 0, 10, .inl (fun _ => 0))), (a11, .inl (E.2.2 0, 60, .inl (fun _ => 0))), (a0, .inr (7, [.int 0, .int 0, .int 0, .int 0, .int 0, .int 0, .ref a12, .ref a13, .ref a14, .ref a15, .ref a16, .ref a17, .ref a18, .ref a19, .ref a20, .ref a21, .ref a22, .ref a23])), (a12, .inl (E.2.2 0, 36, .inl g3)), (a13, .inl (E.2.2 2, 12, .inr (.inl g7))), (a14, .inl (E.2.2 0, 6, .inl (fun _ => 0))), (a15, .inl (E.2.2 0, 6, .inl (fun _ => 0))), (a16, .inl (E.2.2 0, 6, .inl (fun _ => 0))), (a17, .inl (E.2.2 0, 10, .inl (fun _ => 0))), (a18, .inl (E.2.2 0, 10, .inl (fun _ => 0))), (a19, .inl (E.2.2 0, 10, .inl (fun _ => 0))), (a20, .inl (E.2.2 0, 10, .inl (fun _ => 0))), (a21, .inl (E.2.2 0, 10, .inl (fun _ => 0))), (a22, .inl (E.2.2 0, 10, .inl (fun _ => 0))), (a23, .inl (E.2.2 0, 60, .inl (fun _ => 0))), (a1, .inr (7, [.int 0, .int 0, .int 0, .int 0, .int 0, .int 0, .ref a24, .ref a25, .ref a2, .ref a3, .ref a4, .ref a5, .ref a6, .ref a7, .ref a8, .ref a9, .ref a10, .ref a11])), (a24, .inl (E.2.2 0, 36, .inl f0)), (a25, .inl (E.2.2 2, 12, .inr (.inl f1)))] 0 0
  refine mp_copyi hF (idx := 77) (mp_gm (j := 3113) (by decide +kernel)) 8 21 rfl rfl (by decide) (by decide) (by decide) (by decide) (by decide) ⟨(Nat.le_of_ble_eq_true rfl), (Nat.le_of_ble_eq_true rfl)⟩ (by decide +kernel) (fun g25 h26 => ?_)
  obtain rfl : g25 = (fun _ => 0) := h26.trans (mp_cpy0 _ _ _)
  show mp_W E X 2 219 [(0, .ref a0), (1, .ref a1)] [] [(a2, .inl (E.2.2 0, 6, .inl (fun _ => 0))), (a3, .inl (E.2.2 0, 6, .inl (fun _ => 0))), (a4, .inl (E.2.2 0, 6, .inl (fun _ => 0))), (a5, .inl (E.2.2 0, 10, .inl (fun _ => 0))), (a6, .inl (E.2.2 0, 10, .inl (fun _ => 0))), (a7, .inl (E.2.2 0, 10, .inl (fun _ => 0))), (a8, .inl (E.2.2 0, 10, .inl (fun _ => 0))), (a9, .inl (E.2.2 0, 10, .inl (fun _ => 0))), (a10, .inl (E.2.2 0, 10, .inl (fun _ => 0))), (a11, .inl (E.2.2 0, 60, .inl (fun _ => 0))), (a0, .inr (7, [.int 0, .int 0, .int 0, .int 0, .int 0, .int 0, .ref a12, .ref a13, .ref a14, .ref a15, .ref a16, .ref a17, .ref a18, .ref a19, .ref a20, .ref a21, .ref a22, .ref a23])), (a12, .inl (E.2.2 0, 36, .inl g3)), (a13, .inl (E.2.2 2, 12, .inr (.inl g7))), (a14, .inl (E.2.2 0, 6, .inl (fun _ => 0))), (a15, .inl (E.2.2 0, 6, .inl (fun _ => 0))), (a16, .inl (E.2.2 0, 6, .inl (fun _ => 0))), (a17, .inl (E.2.2 0, 10, .inl (fun _ => 0))), (a18, .inl (E.2.2 0, 10, .inl (fun _ => 0))), (a19, .inl (E.2.2 0, 10, .inl (fun _ => 0))), (a20, .inl (E.2.2 0, 10, .inl (fun _ => 0))), (a21, .inl (E.2.2 0, 10, .inl (fun _ => 0))), (a22, .inl (E.2.2 0, 10, .inl (fun _ => 0))), (a23, .inl (E.2.2 0, 60, .inl (fun _ => 0))), (a1, .inr (7, [.int 0, .int 0, .int 0, .int 0, .int 0, .int 0, .ref a24, .ref a25, .ref a2, .ref a3, .ref a4, .ref a5, .ref a6, .ref a7, .ref a8, .ref a9, .ref a10, .ref a11])), (a24, .inl (E.2.2 0, 36, .inl f0)), (a25, .inl (E.2.2 2, 12, .inr (.inl f1)))] 0 0
  refine mp_run hF mp_tabX7_ok [mp_i (.aload_n 1), mp_h (.getfield 46) [17, 23], mp_c (.iconst 0) 0, mp_i (.aload_n 0), mp_h (.getfield 46) [17, 10], mp_c (.iconst 0) 0, mp_c (.bipush 60) 60] (by decide +kernel) ?_
  refine And.intro rfl (And.intro rfl ?_)
  refine And.intro rfl (And.intro rfl ?_)
  show mp_W E X 2 231 [(0, .ref a0), (1, .ref a1)] [.int 60, .int 0, .ref a23, .int 0, .ref a11] [(a2, .inl (E.2.2 0, 6, .inl (fun _ => 0))), (a3, .inl (E.2.2 0, 6, .inl (fun _ => 0))), (a4, .inl (E.2.2 0, 6, .inl (fun _ => 0))), (a5, .inl (E.2.2 0, 10, .inl (fun _ => 0))), (a6, .inl (E.2.2 0, 10, .inl (fun _ => 0))), (a7, .inl (E.2.2 0, 10, .inl (fun _ => 0))), (a8, .inl (E.2.2 0, 10, .inl (fun _ => 0))), (a9, .inl (E.2.2 0, 10, .inl (fun _ => 0))), (a10, .inl (E.2.2 0, 10, .inl (fun _ => 0))), (a11, .inl (E.2.2 0, 60, .inl (fun _ => 0))), (a0, .inr (7, [.int 0, .int 0, .int 0, .int 0, .int 0, .int 0, .ref a12, .ref a13, .ref a14, .ref a15, .ref a16, .ref a17, .ref a18, .ref a19, .ref a20, .ref a21, .ref a22, .ref a23])), (a12, .inl (E.2.2 0, 36, .inl g3)), (a13, .inl (E.2.2 2, 12, .inr (.inl g7))), (a14, .inl (E.2.2 0, 6, .inl (fun _ => 0))), (a15, .inl (E.2.2 0, 6, .inl (fun _ => 0))), (a16, .inl (E.2.2 0, 6, .inl (fun _ => 0))), (a17, .inl (E.2.2 0, 10, .inl (fun _ => 0))), (a18, .inl (E.2.2 0, 10, .inl (fun _ => 0))), (a19, .inl (E.2.2 0, 10, .inl (fun _ => 0))), (a20, .inl (E.2.2 0, 10, .inl (fun _ => 0))), (a21, .inl (E.2.2 0, 10, .inl (fun _ => 0))), (a22, .inl (E.2.2 0, 10, .inl (fun _ => 0))), (a23, .inl (E.2.2 0, 60, .inl (fun _ => 0))), (a1, .inr (7, [.int 0, .int 0, .int 0, .int 0, .int 0, .int 0, .ref a24, .ref a25, .ref a2, .ref a3, .ref a4, .ref a5, .ref a6, .ref a7, .ref a8, .ref a9, .ref a10, .ref a11])), (a24, .inl (E.2.2 0, 36, .inl f0)), (a25, .inl (E.2.2 2, 12, .inr (.inl f1)))] 0 0
  refine mp_copyi hF (idx := 77) (mp_gm (j := 3113) (by decide +kernel)) 9 22 rfl rfl (by decide) (by decide) (by decide) (by decide) (by decide) ⟨(Nat.le_of_ble_eq_true rfl), (Nat.le_of_ble_eq_true rfl)⟩ (by decide +kernel) (fun g27 h28 => ?_)
  obtain rfl : g27 = (fun _ => 0) := h28.trans (mp_cpy0 _ _ _)
  show mp_W E X 2 234 [(0, .ref a0), (1, .ref a1)] [] [(a2, .inl (E.2.2 0, 6, .inl (fun _ => 0))), (a3, .inl (E.2.2 0, 6, .inl (fun _ => 0))), (a4, .inl (E.2.2 0, 6, .inl (fun _ => 0))), (a5, .inl (E.2.2 0, 10, .inl (fun _ => 0))), (a6, .inl (E.2.2 0, 10, .inl (fun _ => 0))), (a7, .inl (E.2.2 0, 10, .inl (fun _ => 0))), (a8, .inl (E.2.2 0, 10, .inl (fun _ => 0))), (a9, .inl (E.2.2 0, 10, .inl (fun _ => 0))), (a10, .inl (E.2.2 0, 10, .inl (fun _ => 0))), (a11, .inl (E.2.2 0, 60, .inl (fun _ => 0))), (a0, .inr (7, [.int 0, .int 0, .int 0, .int 0, .int 0, .int 0, .ref a12, .ref a13, .ref a14, .ref a15, .ref a16, .ref a17, .ref a18, .ref a19, .ref a20, .ref a21, .ref a22, .ref a23])), (a12, .inl (E.2.2 0, 36, .inl g3)), (a13, .inl (E.2.2 2, 12, .inr (.inl g7))), (a14, .inl (E.2.2 0, 6, .inl (fun _ => 0))), (a15, .inl (E.2.2 0, 6, .inl (fun _ => 0))), (a16, .inl (E.2.2 0, 6, .inl (fun _ => 0))), (a17, .inl (E.2.2 0, 10, .inl (fun _ => 0))), (a18, .inl (E.2.2 0, 10, .inl (fun _ => 0))), (a19, .inl (E.2.2 0, 10, .inl (fun _ => 0))), (a20, .inl (E.2.2 0, 10, .inl (fun _ => 0))), (a21, .inl (E.2.2 0, 10, .inl (fun _ => 0))), (a22, .inl (E.2.2 0, 10, .inl (fun _ => 0))), (a23, .inl (E.2.2 0, 60, .inl (fun _ => 0))), (a1, .inr (7, [.int 0, .int 0, .int 0, .int 0, .int 0, .int 0, .ref a24, .ref a25, .ref a2, .ref a3, .ref a4, .ref a5, .ref a6, .ref a7, .ref a8, .ref a9, .ref a10, .ref a11])), (a24, .inl (E.2.2 0, 36, .inl f0)), (a25, .inl (E.2.2 2, 12, .inr (.inl f1)))] 0 0
  exact mp_vret hF hQ rfl (Nat.le_of_ble_eq_true rfl) (Nat.le_of_ble_eq_true rfl) [0, 1, 2, 3, 4, 5, 6, 7, 8, 9, 10, 11, 12, 13, 14, 15, 16, 17, 18, 19, 20, 21, 22, 23, 24, 25] (w' := [(a2, .inl (E.2.2 0, 6, .inl (fun _ => 0))), (a3, .inl (E.2.2 0, 6, .inl (fun _ => 0))), (a4, .inl (E.2.2 0, 6, .inl (fun _ => 0))), (a5, .inl (E.2.2 0, 10, .inl (fun _ => 0))), (a6, .inl (E.2.2 0, 10, .inl (fun _ => 0))), (a7, .inl (E.2.2 0, 10, .inl (fun _ => 0))), (a8, .inl (E.2.2 0, 10, .inl (fun _ => 0))), (a9, .inl (E.2.2 0, 10, .inl (fun _ => 0))), (a10, .inl (E.2.2 0, 10, .inl (fun _ => 0))), (a11, .inl (E.2.2 0, 60, .inl (fun _ => 0))), (a0, .inr (7, [.int 0, .int 0, .int 0, .int 0, .int 0, .int 0, .ref a12, .ref a13, .ref a14, .ref a15, .ref a16, .ref a17, .ref a18, .ref a19, .ref a20, .ref a21, .ref a22, .ref a23])), (a12, .inl (E.2.2 0, 36, .inl g3)), (a13, .inl (E.2.2 2, 12, .inr (.inl g7))), (a14, .inl (E.2.2 0, 6, .inl (fun _ => 0))), (a15, .inl (E.2.2 0, 6, .inl (fun _ => 0))), (a16, .inl (E.2.2 0, 6, .inl (fun _ => 0))), (a17, .inl (E.2.2 0, 10, .inl (fun _ => 0))), (a18, .inl (E.2.2 0, 10, .inl (fun _ => 0))), (a19, .inl (E.2.2 0, 10, .inl (fun _ => 0))), (a20, .inl (E.2.2 0, 10, .inl (fun _ => 0))), (a21, .inl (E.2.2 0, 10, .inl (fun _ => 0))), (a22, .inl (E.2.2 0, 10, .inl (fun _ => 0))), (a23, .inl (E.2.2 0, 60, .inl (fun _ => 0))), (a1, .inr (7, [.int 0, .int 0, .int 0, .int 0, .int 0, .int 0, .ref a24, .ref a25, .ref a2, .ref a3, .ref a4, .ref a5, .ref a6, .ref a7, .ref a8, .ref a9, .ref a10, .ref a11])), (a24, .inl (E.2.2 0, 36, .inl f0)), (a25, .inl (E.2.2 2, 12, .inr (.inl f1)))]) rfl rfl ⟨g3, g7, rfl, rfl⟩ (by decide +kernel)
