set_option maxHeartbeats 4000000 in
set_option maxRecDepth 100000 in
theorem bJ7_fill_d0a16_45 (E : mp_E) (a0 : Nat) (f0 : Nat → Int64) (x0 : Int64) : mp_Ct E yJ7_fill_d0a16 cJ7_fill_d0a16 5 none 0 0 0 0 [.ref a0, .long x0] [(mp_arL E a0 20 f0)] (fun v w' => ∃ h1 : Nat → Int64, v = none ∧ (∀ j : Nat, (j : Int) < 20 → h1 j = x0) ∧ w' = [(mp_arL E a0 20 h1)]) := by
  refine mp_met false (by decide) (by decide) (Nat.le_of_ble_eq_true rfl) (fun X hF hQ => ?_)
  have hF : mp_F E X (RJ7, cJ7_fill_d0a16, 5, (0, 0, 0, 0), none, false) := hF
  show mp_W E X 5 0 [(0, .ref a0), (1, .long x0)] [] [(mp_arL E a0 20 f0)] 0 0
  refine mp_run mp_k_cJ7_fill_d0a16_ok hF mp_tab0_ok [mp_c (.iconst 0) 0, mp_i (.istore_n 3), mp_i (.aload_n 0), mp_h .arraylength [0, 2], mp_i (.istore 4)] (by decide +kernel) ?_
  refine And.intro rfl (And.intro rfl (And.intro (by decide) ?_))
  intro z_1 h_2
  obtain rfl : z_1 = 20 := h_2.trans (show Int32.ofNat 20 = (20 : Int32) by decide)
  show mp_W E X 5 6 [(4, .int 20), (3, .int 0), (0, .ref a0), (1, .long x0)] [] [(mp_arL E a0 20 f0)] 0 0
  have lp_9 : ∀ (d_10 : Nat) (i_3 : Int32) (g_4 : Nat → Int64), 0 ≤ i_3.toInt → i_3.toInt ≤ 20 → (∀ j : Nat, (j : Int) < i_3.toInt → g_4 j = x0) → (0 ≤ i_3.toInt) → -(i_3.toInt) + 20 ≤ (d_10 : Int) → mp_W E X 5 6 [(4, .int 20), (3, .int i_3), (0, .ref a0), (1, .long x0)] [] [(mp_arL E a0 20 g_4)] 0 0 := by
    intro d_10
    induction d_10 using Nat.strongRecOn with
    | ind d_10 ih_11 =>
      intro i_3 g_4 l_5 u_6 x_7 x_8 hm_12
      refine mp_run mp_k_cJ7_fill_d0a16_ok hF mp_tab0_ok [mp_i (.iload_n 3), mp_i (.iload 4), mp_h (.if_icmp .ge 13) [22]] (by decide +kernel) ?_
      refine And.intro (fun c_13 => ?_) (fun c_13 => ?_)
      · have c_13 : 20 ≤ i_3.toInt := c_13
        show mp_W E X 5 22 [(4, .int 20), (3, .int i_3), (0, .ref a0), (1, .long x0)] [] [(mp_arL E a0 20 g_4)] 0 0
        exact mp_vret hF hQ rfl (Nat.le_of_ble_eq_true rfl) (Nat.le_of_ble_eq_true rfl) [0] (w' := [(mp_arL E a0 20 g_4)]) rfl rfl ⟨g_4, rfl, (fun j hj => x_7 j (by (first | exact mp_o305 hj c_13 | omega))), rfl⟩ (by first | exact mp_fd_ok mp_k_cJ7_fill_d0a16_ok (by decide +kernel) | decide +kernel)
      · have c_13 : i_3.toInt < 20 := c_13
        show mp_W E X 5 12 [(4, .int 20), (3, .int i_3), (0, .ref a0), (1, .long x0)] [] [(mp_arL E a0 20 g_4)] 0 0
        refine mp_run mp_k_cJ7_fill_d0a16_ok hF mp_tab0_ok [mp_i (.aload_n 0), mp_i (.iload_n 3), mp_i (.lload_n 1), mp_h .lastore [0]] (by decide +kernel) ?_
        refine And.intro rfl (And.intro rfl (And.intro (vp_in_iff.mpr (by (first | exact mp_o306 l_5 c_13 | omega))) ?_))
        intro g_14 h_15
        show mp_W E X 5 16 [(4, .int 20), (3, .int i_3), (0, .ref a0), (1, .long x0)] [] [(mp_arL E a0 20 g_14)] 0 0
        refine mp_run mp_k_cJ7_fill_d0a16_ok hF mp_tab0_ok [mp_c (.iinc 3 1) 1, mp_h (.goto (-13)) [6]] (by decide +kernel) ?_
        intro z_16 h_17
        have e_18 : z_16.toInt = i_3.toInt + 1 := mp_add (a := i_3.toInt) (b := 1) h_17 rfl (by decide) (by (first | exact mp_o2 l_5 | omega)) (by (first | exact mp_o307 c_13 | omega))
        show mp_W E X 5 6 [(3, .int z_16), (4, .int 20), (0, .ref a0), (1, .long x0)] [] [(mp_arL E a0 20 g_14)] 0 0
        exact mp_sub [1, 0, 2, 3] rfl [0] rfl rfl (ih_11 (d_10 - 1) (by (first | exact mp_o308 hm_12 c_13 | omega)) z_16 g_14 (by (first | exact mp_o51 l_5 e_18 | omega)) (by (first | exact mp_o309 c_13 e_18 | omega)) (mp_fill_s x_7 (by rw [h_15]; exact if_pos rfl) (fun j hj => by rw [h_15]; exact if_neg hj) (by (first | exact mp_o53 l_5 e_18 | omega))) (by (first | exact mp_o51 l_5 e_18 | omega)) (by (first | exact mp_o310 hm_12 e_18 | omega)))
  exact mp_sub [0, 1, 2, 3] rfl [0] rfl rfl (lp_9 _ 0 f0 (by decide) (by decide) (fun j hj => absurd hj (by have h8 : (0 : Int32).toInt = 0 := rfl; omega)) (by decide) (Int.self_le_toNat _))
