theorem mp_i32_lt {x y : Int32} : x < y ↔ x.toInt < y.toInt := Int32.lt_iff_toInt_lt
theorem mp_i32_le {x y : Int32} : x ≤ y ↔ x.toInt ≤ y.toInt := Int32.le_iff_toInt_le
theorem mp_i32_ne {x y : Int32} : ¬ x = y → x.toInt ≠ y.toInt := fun h e => h (Int32.toInt_inj.mp e)
theorem mp_t0 : (0 : Int32).toInt = 0 := by decide
theorem mp_cell0 (ci : Nat) (q : vw_C) (h : vwCl[ci]? = some q) : ∃ ty : Nat → FieldType, (∀ k, k < q.2.2 → parseFieldDescriptor (q.2.1 k).2.2.1 = some (ty k)) ∧ (∀ a, a < q.2.2 → ∀ b, b < q.2.2 → a ≠ b → (q.2.1 a).2.1 ≠ (q.2.1 b).2.1) ∧ (∀ w ∈ u_ws q.1 q.2.1 q.2.2, w ∈ mp_UT) := by
  match ci, h with
  | 0, h => cases h; exact ⟨tyX0, tyX0_ok, nmX0, inlX0⟩
  | 1, h => cases h; exact ⟨tyX1, tyX1_ok, nmX1, inlX1⟩
  | 2, h => cases h; exact ⟨tyX2, tyX2_ok, nmX2, inlX2⟩
  | 3, h => cases h; exact ⟨tyX3, tyX3_ok, nmX3, inlX3⟩
  | 4, h => cases h; exact ⟨tyX4, tyX4_ok, nmX4, inlX4⟩
  | 5, h => cases h; exact ⟨tyX5, tyX5_ok, nmX5, inlX5⟩
  | 6, h => cases h; exact ⟨tyX6, tyX6_ok, nmX6, inlX6⟩
  | 7, h => cases h; exact ⟨tyX7, tyX7_ok, nmX7, inlX7⟩
  | 8, h => cases h; exact ⟨tyX8, tyX8_ok, nmX8, inlX8⟩
  | 9, h => cases h; exact ⟨tyX9, tyX9_ok, nmX9, inlX9⟩
  | 10, h => cases h; exact ⟨tyX10, tyX10_ok, nmX10, inlX10⟩
  | k + 11, h => simp at h
set_option maxHeartbeats 4000000 in
theorem mp_run {E : mp_E} {X : mp_X} {M : mp_M} {N : Nat} (hB : mp_pk M.2.1.data.toList = N) (hF : mp_F E X M) {t : mp_T} (ht : mp_Tok M.1 t) :
    ∀ (b : List mp_I) {pc : Nat} {lv : List (Nat × Value)} {st : List Value} {ws : va_W} {k n : Nat}, mp_dec N M.2.2.1 M.2.2.2.2.2 t b pc = true → mp_wp E X M.2.2.1 t M.2.2.2.1.2.1 M.2.2.2.1.2.2.1 b pc lv st ws k n → mp_W E X M.2.2.1 pc lv st ws k n := by
  obtain ⟨hx, hb, hml, hown, hts, hK, hA, hlk, hR, hrt, hin, hN⟩ := hF
  intro b
  induction b with
  | nil => intro pc lv st ws k n _ h; exact h
  | cons i r ih =>
    intro pc lv st ws k n hd h
    simp only [mp_dec, Bool.and_eq_true, decide_eq_true_eq] at hd
    obtain ⟨⟨hg, hc⟩, hd⟩ := hd
    replace hg := mp_fd_ok hB hg
    obtain ⟨op, hs, v32, v64⟩ := i
    replace h : mp_op E X M.2.2.1 t M.2.2.2.1.2.1 M.2.2.2.1.2.2.1 (op, hs, v32, v64) pc lv st ws k n (mp_wp E X M.2.2.1 t M.2.2.2.1.2.1 M.2.2.2.1.2.2.1 r) := h
    intro H locs ls hP hD hS hl
    cases op with
    | iconst z =>
      have hc := of_decide_eq_true hc
      exact lv_iconst hx hb hg hc (ih hd h H locs ls hP hD hS hl)
    | bipush z =>
      have hc := of_decide_eq_true hc
      exact lv_bipush hx hb hg hc (ih hd h H locs ls hP hD hS hl)
    | sipush z =>
      have hc := of_decide_eq_true hc
      exact lv_sipush hx hb hg hc (ih hd h H locs ls hP hD hS hl)
    | lconst z =>
      have hc := of_decide_eq_true hc
      exact lv_lconst hx hb hg hc (ih hd h H locs ls hP hD hS hl)
    | ldc z =>
      have hc := of_decide_eq_true hc
      exact lv_ldc hx hb hown (hts _ (ht.2.1 _ hc)) hg (ih hd h H locs ls hP hD hS hl)
    | ldc_w z =>
      have hc := of_decide_eq_true hc
      exact lv_ldcw hx hb hown (hts _ (ht.2.1 _ hc)) hg (ih hd h H locs ls hP hD hS hl)
    | ldc2_w z =>
      have hc := of_decide_eq_true hc
      exact lv_ldc2 hx hb hown (hts _ (ht.2.2 _ hc)) hg (ih hd h H locs ls hP hD hS hl)
    | iload_n z =>
      obtain ⟨x, hf, h⟩ := mp_vi_of h
      exact lv_iload_n hx hb hg rfl (hl.2.2 _ (mp_find_mem hf)) (ih hd h H locs ls hP hD hS hl)
    | iload z =>
      obtain ⟨x, hf, h⟩ := mp_vi_of h
      exact lv_iload hx hb hg (hl.2.2 _ (mp_find_mem hf)) (ih hd h H locs ls hP hD hS hl)
    | lload_n z =>
      obtain ⟨x, hf, h⟩ := mp_vl_of h
      exact lv_lload_n hx hb hg rfl (hl.2.2 _ (mp_find_mem hf)) (ih hd h H locs ls hP hD hS hl)
    | lload z =>
      obtain ⟨x, hf, h⟩ := mp_vl_of h
      exact lv_lload hx hb hg (hl.2.2 _ (mp_find_mem hf)) (ih hd h H locs ls hP hD hS hl)
    | aload_n z =>
      obtain ⟨x, hf, h⟩ := mp_vr_of h
      exact lv_aload_n hx hb hg rfl (hl.2.2 _ (mp_find_mem hf)) (ih hd h H locs ls hP hD hS hl)
    | aload z =>
      obtain ⟨x, hf, h⟩ := mp_vr_of h
      exact lv_aload hx hb hg (hl.2.2 _ (mp_find_mem hf)) (ih hd h H locs ls hP hD hS hl)
    | istore_n z =>
      have hc := of_decide_eq_true hc
      obtain ⟨x, st, rfl, h⟩ := mp_s1_of h
      exact lv_istore_n hx hb hg rfl hl hc rfl (fun ls hl => ih hd h H locs ls hP hD hS hl)
    | istore z =>
      have hc := of_decide_eq_true hc
      obtain ⟨x, st, rfl, h⟩ := mp_s1_of h
      exact lv_istore hx hb hg hl hc rfl (fun ls hl => ih hd h H locs ls hP hD hS hl)
    | lstore_n z =>
      have hc := of_decide_eq_true hc
      obtain ⟨x, st, rfl, h⟩ := mp_sl1_of h
      exact lv_lstore_n hx hb hg rfl hl hc rfl (fun ls hl => ih hd h H locs ls hP hD hS hl)
    | lstore z =>
      have hc := of_decide_eq_true hc
      obtain ⟨x, st, rfl, h⟩ := mp_sl1_of h
      exact lv_lstore hx hb hg hl hc rfl (fun ls hl => ih hd h H locs ls hP hD hS hl)
    | astore_n z =>
      have hc := of_decide_eq_true hc
      obtain ⟨x, st, rfl, h⟩ := mp_sr_of h
      exact lv_astore_n hx hb hg rfl hl hc rfl (fun ls hl => ih hd h H locs ls hP hD hS hl)
    | astore z =>
      have hc := of_decide_eq_true hc
      obtain ⟨x, st, rfl, h⟩ := mp_sr_of h
      exact lv_astore hx hb hg hl hc rfl (fun ls hl => ih hd h H locs ls hP hD hS hl)
    | iinc j z =>
      have hc := Bool.and_eq_true_iff.mp hc
      have hc1 := of_decide_eq_true hc.1
      have hc2 := of_decide_eq_true hc.2
      obtain ⟨x, hf, h⟩ := mp_vi_of h
      obtain ⟨q, hq⟩ := List.mem_iff_getElem?.mp (mp_find_mem hf)
      exact lv_iinc hx hb hg hl hq (by rw [hc1]) hc2 rfl (fun ls hl => ih hd (h _ rfl) H locs ls hP hD hS hl)
    | iadd =>
      obtain ⟨x, y, st, rfl, h⟩ := mp_s2_of h
      exact lv_iadd hx hb hg (ih hd (h _ rfl) H locs ls hP hD hS hl)
    | isub =>
      obtain ⟨x, y, st, rfl, h⟩ := mp_s2_of h
      exact lv_isub hx hb hg (ih hd (h _ rfl) H locs ls hP hD hS hl)
    | imul =>
      obtain ⟨x, y, st, rfl, h⟩ := mp_s2_of h
      exact lv_imul hx hb hg (ih hd (h _ rfl) H locs ls hP hD hS hl)
    | iand =>
      obtain ⟨x, y, st, rfl, h⟩ := mp_s2_of h
      exact lv_iand hx hb hg (ih hd (h _ rfl) H locs ls hP hD hS hl)
    | ior =>
      obtain ⟨x, y, st, rfl, h⟩ := mp_s2_of h
      exact lv_ior hx hb hg (ih hd (h _ rfl) H locs ls hP hD hS hl)
    | ixor =>
      obtain ⟨x, y, st, rfl, h⟩ := mp_s2_of h
      exact lv_ixor hx hb hg (ih hd (h _ rfl) H locs ls hP hD hS hl)
    | ishl =>
      obtain ⟨x, y, st, rfl, h⟩ := mp_s2_of h
      exact lv_ishl hx hb hg (ih hd (h _ rfl) H locs ls hP hD hS hl)
    | ishr =>
      obtain ⟨x, y, st, rfl, h⟩ := mp_s2_of h
      exact lv_ishr hx hb hg (ih hd (h _ rfl) H locs ls hP hD hS hl)
    | idiv =>
      obtain ⟨x, y, st, rfl, h0, h⟩ := mp_s2_of h
      exact lv_idiv hx hb hg h0 (ih hd (h _ rfl) H locs ls hP hD hS hl)
    | irem =>
      obtain ⟨x, y, st, rfl, h0, h⟩ := mp_s2_of h
      exact lv_irem hx hb hg h0 (ih hd (h _ rfl) H locs ls hP hD hS hl)
    | ladd =>
      obtain ⟨x, y, st, rfl, h⟩ := mp_sl2_of h
      exact lv_ladd hx hb hg (ih hd (h _ rfl) H locs ls hP hD hS hl)
    | lsub =>
      obtain ⟨x, y, st, rfl, h⟩ := mp_sl2_of h
      exact lv_lsub hx hb hg (ih hd (h _ rfl) H locs ls hP hD hS hl)
    | lmul =>
      obtain ⟨x, y, st, rfl, h⟩ := mp_sl2_of h
      exact lv_lmul hx hb hg (ih hd (h _ rfl) H locs ls hP hD hS hl)
    | land =>
      obtain ⟨x, y, st, rfl, h⟩ := mp_sl2_of h
      exact lv_land hx hb hg (ih hd (h _ rfl) H locs ls hP hD hS hl)
    | lor =>
      obtain ⟨x, y, st, rfl, h⟩ := mp_sl2_of h
      exact lv_lor hx hb hg (ih hd (h _ rfl) H locs ls hP hD hS hl)
    | lxor =>
      obtain ⟨x, y, st, rfl, h⟩ := mp_sl2_of h
      exact lv_lxor hx hb hg (ih hd (h _ rfl) H locs ls hP hD hS hl)
    | ldiv =>
      obtain ⟨x, y, st, rfl, h0, h⟩ := mp_sl2_of h
      exact lv_ldiv hx hb hg h0 (ih hd (h _ rfl) H locs ls hP hD hS hl)
    | lrem =>
      obtain ⟨x, y, st, rfl, h0, h⟩ := mp_sl2_of h
      exact lv_lrem hx hb hg h0 (ih hd (h _ rfl) H locs ls hP hD hS hl)
    | lshl =>
      obtain ⟨x, y, st, rfl, h⟩ := mp_sli_of h
      exact lv_lshl hx hb hg rfl (ih hd (h _ rfl) H locs ls hP hD hS hl)
    | lshr =>
      obtain ⟨x, y, st, rfl, h⟩ := mp_sli_of h
      exact lv_lshr hx hb hg rfl (ih hd (h _ rfl) H locs ls hP hD hS hl)
    | i2l =>
      obtain ⟨x, st, rfl, h⟩ := mp_s1_of h
      exact lv_i2l hx hb hg rfl (ih hd (h _ rfl) H locs ls hP hD hS hl)
    | l2i =>
      obtain ⟨x, st, rfl, h⟩ := mp_sl1_of h
      exact lv_l2i hx hb hg rfl (ih hd (h _ rfl) H locs ls hP hD hS hl)
    | i2b =>
      obtain ⟨x, st, rfl, h⟩ := mp_s1_of h
      exact lv_i2b hx hb hg rfl (ih hd (h _ rfl) H locs ls hP hD hS hl)
    | i2s =>
      obtain ⟨x, st, rfl, h⟩ := mp_s1_of h
      exact lv_i2s hx hb hg rfl (ih hd (h _ rfl) H locs ls hP hD hS hl)
    | lcmp =>
      obtain ⟨x, y, st, rfl, h⟩ := mp_sl2_of h
      exact W.lcmp hx hb hg (ih hd (h _ rfl) H locs ls hP hD hS hl)
    | dup =>
      cases st with
      | nil => exact h.elim
      | cons v st => exact lv_dup hx hb hg h.1 (ih hd h.2 H locs ls hP hD hS hl)
    | pop =>
      cases st with
      | nil => exact h.elim
      | cons v st => exact lv_pop hx hb hg h.1 (ih hd h.2 H locs ls hP hD hS hl)
    | dup2 =>
      obtain ⟨y, a, st, rfl, h⟩ := mp_sir_of h
      exact lv_dup2_11 hx hb hg rfl rfl (ih hd h H locs ls hP hD hS hl)
    | getfield z =>
      rcases hs with _ | ⟨j, _ | ⟨q0, hs⟩⟩
      · exact h.elim
      · exact h.elim
      ·
        replace h : (match t.1[j]? with
          | some x => mp_sr st fun a st => mp_wo ws q0 fun b ci fs => a = b ∧ ci = x.2.1 ∧ (match fs[x.2.2.1]? with | some v => mp_wp E X M.2.2.1 t M.2.2.2.1.2.1 M.2.2.2.1.2.2.1 r (pc + 3) lv (v :: st) ws k n | none => False)
          | none => False) := h
        replace hc : (match t.1[j]? with | some x => decide (x.1 = z) | none => false) = true := hc
        cases hx0 : t.1[j]? with
        | none => rw [hx0] at h; exact h.elim
        | some x =>
          rw [hx0] at h hc
          replace hc : x.1 = z := of_decide_eq_true hc
          obtain ⟨a, st, rfl, h⟩ := mp_sr_of h
          obtain ⟨b, ci, fs, hw, rfl, rfl, h⟩ := mp_wo_of h
          cases hv : fs[x.2.2.1]? with
          | none => rw [hv] at h; exact h.elim
          | some v =>
            rw [hv] at h
            obtain ⟨q, hq, hk, hlink, -, -, -⟩ := ht.1 x (List.mem_of_getElem? hx0)
            obtain ⟨ty, hty, hnm, hwin⟩ := mp_cell0 _ q hq
            subst hc
            exact va_get hx hb hts hwin hown hK hP q0 hw hq x.2.2.1 hk (hts _ hlink) (fun _ h9 => h9) hv hg (ih hd h H locs ls hP hD hS hl)
    | putfield z =>
      rcases hs with _ | ⟨j, _ | ⟨q0, hs⟩⟩
      · exact h.elim
      · exact h.elim
      ·
        replace h : (match t.1[j]? with
          | some x => mp_svr st fun v a st => mp_wo ws q0 fun b ci fs => a = b ∧ ci = x.2.1 ∧ narrow x.2.2.2.2.2 v = v ∧ fits x.2.2.2.2.2 v = true ∧ x.2.2.1 < fs.length ∧ mp_wp E X M.2.2.1 t M.2.2.2.1.2.1 M.2.2.2.1.2.2.1 r (pc + 3) lv st (ws.set q0 (b, .inr (ci, fs.set x.2.2.1 v))) k n
          | none => False) := h
        replace hc : (match t.1[j]? with | some x => decide (x.1 = z) && decide (x.2.2.2.1 = true → x.2.2.2.2.1 = true ∧ M.2.2.2.2.2 = true) | none => false) = true := hc
        cases hx0 : t.1[j]? with
        | none => rw [hx0] at h; exact h.elim
        | some x =>
          rw [hx0] at h hc
          replace hc := Bool.and_eq_true_iff.mp hc
          have hc1 : x.1 = z := of_decide_eq_true hc.1
          have hc2 := of_decide_eq_true hc.2
          obtain ⟨v, a, st, rfl, h⟩ := mp_svr_of h
          obtain ⟨b, ci, fs, hw, rfl, rfl, hn, hfit, hlen, h⟩ := mp_wo_of h
          obtain ⟨q, hq, hk, hlink, hfin, hpd, hdecl⟩ := ht.1 x (List.mem_of_getElem? hx0)
          obtain ⟨ty, hty, hnm, hwin⟩ := mp_cell0 _ q hq
          subst hc1
          cases hfb : x.2.2.2.1 with
          | false => exact va_put hx hb hts hwin ty hty hnm hown hK hP hD hS q0 hw hq x.2.2.1 hk (hts _ hlink) (fun _ h9 => h9) (hfin.trans hfb) hpd hn hfit hlen hg (fun H1 locs1 hP hD hS => ih hd h H1 locs1 ls hP hD hS hl)
          | true => exact va_putF hx hb hts hwin ty hty hnm hown hK hP hD hS q0 hw hq x.2.2.1 hk (hts _ hlink) (fun _ h9 => h9) (hfin.trans hfb) (hin (hc2 hfb).2) (hdecl (hc2 hfb).1) hpd hn hfit hlen hg (fun H1 locs1 hP hD hS => ih hd h H1 locs1 ls hP hD hS hl)
    | iaload =>
      match hs, h, hd with
      | [], h, hd => exact h.elim
      | q0 :: _, h, hd =>
        obtain ⟨j, a, st, rfl, h⟩ := mp_sir_of h
        obtain ⟨b, cA, N, f, hw, rfl, rfl, hv, h⟩ := mp_wi_of h
        exact va_iald hx hb hK hP q0 0 hw rfl hv hg (ih hd (h _ rfl) H locs ls hP hD hS hl)
    | laload =>
      match hs, h, hd with
      | [], h, hd => exact h.elim
      | q0 :: _, h, hd =>
        obtain ⟨j, a, st, rfl, h⟩ := mp_sir_of h
        obtain ⟨b, cA, N, f, hw, rfl, rfl, hv, h⟩ := mp_wl_of h
        exact va_lald hx hb hK hP q0 2 hw rfl hv hg (ih hd (h _ rfl) H locs ls hP hD hS hl)
    | aaload =>
      match hs, h, hd with
      | [], h, hd => exact h.elim
      | q0 :: _, h, hd =>
        obtain ⟨j, a, st, rfl, h⟩ := mp_sir_of h
        obtain ⟨b, cA, N, f, hw, rfl, rfl, hv, h⟩ := mp_wq_of h
        exact va_aldq hx hb hK hP q0 4 hw rfl hv hg (ih hd (h _ rfl) H locs ls hP hD hS hl)
    | baload =>
      match hs, h, hd with
      | [], h, hd => exact h.elim
      | [q0], h, hd =>
        obtain ⟨j, a, st, rfl, h⟩ := mp_sir_of h
        obtain ⟨b, cA, N, f, hw, rfl, rfl, hv, h⟩ := mp_wi_of h
        exact va_bald hx hb hK hP q0 1 hw rfl hv hg (ih hd (h _ rfl) H locs ls hP hD hS hl)
      | [q0, _], h, hd =>
        obtain ⟨j, a, st, rfl, h⟩ := mp_sir_of h
        obtain ⟨b, cA, N, f, hw, rfl, rfl, hv, h⟩ := mp_wi_of h
        exact va_zald hx hb hK hP q0 3 hw rfl hv hg (ih hd (h _ rfl) H locs ls hP hD hS hl)
      | _ :: _ :: _ :: _, h, hd => exact h.elim
    | iastore =>
      match hs, h, hd with
      | [], h, hd => exact h.elim
      | q0 :: _, h, hd =>
        obtain ⟨x, j, a, st, rfl, h⟩ := mp_siir_of h
        obtain ⟨b, cA, N, f, hw, rfl, rfl, hv, h⟩ := mp_wi_of h
        exact va_iast hx hb hK hP hD hS q0 0 hw rfl hv hg (fun H1 locs1 hP hD hS => ih hd (h _ rfl) H1 locs1 ls hP hD hS hl)
    | lastore =>
      match hs, h, hd with
      | [], h, hd => exact h.elim
      | q0 :: _, h, hd =>
        obtain ⟨x, j, a, st, rfl, h⟩ := mp_slir_of h
        obtain ⟨b, cA, N, f, hw, rfl, rfl, hv, h⟩ := mp_wl_of h
        exact va_last hx hb hK hP hD hS q0 2 hw rfl hv hg (fun H1 locs1 hP hD hS => ih hd (h _ rfl) H1 locs1 ls hP hD hS hl)
    | bastore =>
      match hs, h, hd with
      | [], h, hd => exact h.elim
      | [q0], h, hd =>
        obtain ⟨x, j, a, st, rfl, h⟩ := mp_siir_of h
        obtain ⟨b, cA, N, f, hw, rfl, rfl, hv, h⟩ := mp_wi_of h
        exact va_bast hx hb hK hP hD hS q0 1 hw rfl hv hg (fun H1 locs1 hP hD hS => ih hd (h _ rfl) H1 locs1 ls hP hD hS hl)
      | [q0, _], h, hd =>
        obtain ⟨x, j, a, st, rfl, h⟩ := mp_siir_of h
        obtain ⟨b, cA, N, f, hw, rfl, rfl, hv, h⟩ := mp_wi_of h
        exact va_zast hx hb hK hP hD hS q0 3 hw rfl hv hg (fun H1 locs1 hP hD hS => ih hd (h _ rfl) H1 locs1 ls hP hD hS hl)
      | _ :: _ :: _ :: _, h, hd => exact h.elim
    | arraylength =>
      match hs, h, hd with
      | [], h, hd => exact h.elim
      | [_], h, hd => exact h.elim
      | _ :: _ :: _ :: _, h, hd => exact h.elim
      | [q0, t0], h, hd =>
        obtain ⟨a, st, rfl, h⟩ := mp_sr_of h
        obtain ⟨b, cA, x, hw, rfl, rfl, h5, h⟩ := mp_wa_of h
        have hty : ∃ ty, (mp_ty E.2.2)[t0]? = some (E.2.2 t0, ty) := by
          match t0, h5 with
          | 0, _ => exact ⟨_, rfl⟩
          | 1, _ => exact ⟨_, rfl⟩
          | 2, _ => exact ⟨_, rfl⟩
          | 3, _ => exact ⟨_, rfl⟩
          | 4, _ => exact ⟨_, rfl⟩
        obtain ⟨ty, hty⟩ := hty
        exact va_alen hx hb hK hP q0 t0 hw hty rfl hg (ih hd (h _ rfl) H locs ls hP hD hS hl)
    | newarray ty =>
      cases ty with
      | int =>
        match hs, h, hd with
        | [], h, hd => exact h.elim
        | N :: _, h, hd =>
          obtain ⟨x, st, rfl, ⟨h0, h1⟩, hk, hn, hN, h⟩ := mp_s1_of h
          refine va_newa (ty := .int) (N' := N) (a0 := (N, .inl (fun _ => 0))) hx hb (hts _ (mp_utArr 0 _ rfl)) rfl hK hP hD hS hA (fun _ => rfl) (fun q => by rw [mp_i32_lt, mp_t0] at q; omega) (by rw [Int32.toNatClampNeg, h1]; rfl) ?_ (by rw [hR]; exact hk) (by rw [hR]; exact hn) hg (fun q cA H1 hK1 hP hD hS => ?_)
          · show N * _ ≤ _
            exact Nat.le_trans (Nat.mul_le_mul hN (show componentBytes .int ≤ 8 by decide)) (by decide)
          · have e : cA = E.2.2 0 := by
              have a1 := (hK1.2 5 _ rfl).2
              have a2 := (hK.2 0 _ rfl).2
              have a1 : X.2.1.1.vm.findClass ("[" ++ FieldType.toString .int) = some cA := a1
              have a2 : X.2.1.1.vm.findClass ("[" ++ FieldType.toString .int) = some (E.2.2 0) := a2
              rw [a1] at a2
              exact Option.some.inj a2
            subst e
            exact ih hd (h q) H1 locs ls hP hD hS hl
      | byte =>
        match hs, h, hd with
        | [], h, hd => exact h.elim
        | N :: _, h, hd =>
          obtain ⟨x, st, rfl, ⟨h0, h1⟩, hk, hn, hN, h⟩ := mp_s1_of h
          refine va_newa (ty := .byte) (N' := N) (a0 := (N, .inl (fun _ => 0))) hx hb (hts _ (mp_utArr 1 _ rfl)) rfl hK hP hD hS hA (fun _ => rfl) (fun q => by rw [mp_i32_lt, mp_t0] at q; omega) (by rw [Int32.toNatClampNeg, h1]; rfl) ?_ (by rw [hR]; exact hk) (by rw [hR]; exact hn) hg (fun q cA H1 hK1 hP hD hS => ?_)
          · show N * _ ≤ _
            exact Nat.le_trans (Nat.mul_le_mul hN (show componentBytes .byte ≤ 8 by decide)) (by decide)
          · have e : cA = E.2.2 1 := by
              have a1 := (hK1.2 5 _ rfl).2
              have a2 := (hK.2 1 _ rfl).2
              have a1 : X.2.1.1.vm.findClass ("[" ++ FieldType.toString .byte) = some cA := a1
              have a2 : X.2.1.1.vm.findClass ("[" ++ FieldType.toString .byte) = some (E.2.2 1) := a2
              rw [a1] at a2
              exact Option.some.inj a2
            subst e
            exact ih hd (h q) H1 locs ls hP hD hS hl
      | long =>
        match hs, h, hd with
        | [], h, hd => exact h.elim
        | N :: _, h, hd =>
          obtain ⟨x, st, rfl, ⟨h0, h1⟩, hk, hn, hN, h⟩ := mp_s1_of h
          refine va_newa (ty := .long) (N' := N) (a0 := (N, .inr (.inl (fun _ => 0)))) hx hb (hts _ (mp_utArr 2 _ rfl)) rfl hK hP hD hS hA (fun _ => rfl) (fun q => by rw [mp_i32_lt, mp_t0] at q; omega) (by rw [Int32.toNatClampNeg, h1]; rfl) ?_ (by rw [hR]; exact hk) (by rw [hR]; exact hn) hg (fun q cA H1 hK1 hP hD hS => ?_)
          · show N * _ ≤ _
            exact Nat.le_trans (Nat.mul_le_mul hN (show componentBytes .long ≤ 8 by decide)) (by decide)
          · have e : cA = E.2.2 2 := by
              have a1 := (hK1.2 5 _ rfl).2
              have a2 := (hK.2 2 _ rfl).2
              have a1 : X.2.1.1.vm.findClass ("[" ++ FieldType.toString .long) = some cA := a1
              have a2 : X.2.1.1.vm.findClass ("[" ++ FieldType.toString .long) = some (E.2.2 2) := a2
              rw [a1] at a2
              exact Option.some.inj a2
            subst e
            exact ih hd (h q) H1 locs ls hP hD hS hl
      | boolean =>
        match hs, h, hd with
        | [], h, hd => exact h.elim
        | N :: _, h, hd =>
          obtain ⟨x, st, rfl, ⟨h0, h1⟩, hk, hn, hN, h⟩ := mp_s1_of h
          refine va_newa (ty := .boolean) (N' := N) (a0 := (N, .inl (fun _ => 0))) hx hb (hts _ (mp_utArr 3 _ rfl)) rfl hK hP hD hS hA (fun _ => rfl) (fun q => by rw [mp_i32_lt, mp_t0] at q; omega) (by rw [Int32.toNatClampNeg, h1]; rfl) ?_ (by rw [hR]; exact hk) (by rw [hR]; exact hn) hg (fun q cA H1 hK1 hP hD hS => ?_)
          · show N * _ ≤ _
            exact Nat.le_trans (Nat.mul_le_mul hN (show componentBytes .boolean ≤ 8 by decide)) (by decide)
          · have e : cA = E.2.2 3 := by
              have a1 := (hK1.2 5 _ rfl).2
              have a2 := (hK.2 3 _ rfl).2
              have a1 : X.2.1.1.vm.findClass ("[" ++ FieldType.toString .boolean) = some cA := a1
              have a2 : X.2.1.1.vm.findClass ("[" ++ FieldType.toString .boolean) = some (E.2.2 3) := a2
              rw [a1] at a2
              exact Option.some.inj a2
            subst e
            exact ih hd (h q) H1 locs ls hP hD hS hl
      | _ => exact h.elim
    | goto off =>
      match hs, hc, h, hd with
      | [], hc, h, hd => exact absurd (show false = true from hc) (by decide)
      | a :: hs, hc, h, hd =>
        replace hc : (pc : Int) + off = (a : Int) := of_decide_eq_true hc
        exact lv_goto hx hb hg hc (ih hd h H locs ls hP hD hS hl)
    | ifCond cd off =>
      rcases hs with _ | ⟨a, hs⟩
      · exact absurd (show false = true from hc) (by decide)
      ·
        replace hc : (pc : Int) + off = (a : Int) := of_decide_eq_true hc
        obtain ⟨x, st, rfl, h⟩ := mp_s1_of h
        cases cd with
        | eq => exact lv_if_eq hx hb hg hc (fun q => h.1 q H locs ls hP hD hS hl) (fun q => h.2 (fun e => q (Int32.toInt_inj.mp (e.trans mp_t0.symm))) H locs ls hP hD hS hl)
        | ne => exact lv_if_ne hx hb hg hc (fun q => h.1 (fun e => q (Int32.toInt_inj.mp (e.trans mp_t0.symm))) H locs ls hP hD hS hl) (fun q => h.2 q H locs ls hP hD hS hl)
        | lt => exact lv_if_lt hx hb hg hc (fun q => h.1 (by rw [mp_i32_lt, mp_t0] at q; exact q) H locs ls hP hD hS hl) (fun q => h.2 (by rw [mp_i32_lt, mp_t0] at q; omega) H locs ls hP hD hS hl)
        | ge => exact lv_if_ge hx hb hg hc (fun q => h.1 (by rw [mp_i32_le, mp_t0] at q; exact q) H locs ls hP hD hS hl) (fun q => h.2 (by rw [mp_i32_le, mp_t0] at q; omega) H locs ls hP hD hS hl)
        | gt => exact lv_if_gt hx hb hg hc (fun q => h.1 (by rw [mp_i32_lt, mp_t0] at q; exact q) H locs ls hP hD hS hl) (fun q => h.2 (by rw [mp_i32_lt, mp_t0] at q; omega) H locs ls hP hD hS hl)
        | le => exact lv_if_le hx hb hg hc (fun q => h.1 (by rw [mp_i32_le, mp_t0] at q; exact q) H locs ls hP hD hS hl) (fun q => h.2 (by rw [mp_i32_le, mp_t0] at q; omega) H locs ls hP hD hS hl)
    | if_icmp cd off =>
      rcases hs with _ | ⟨a, hs⟩
      · exact absurd (show false = true from hc) (by decide)
      ·
        replace hc : (pc : Int) + off = (a : Int) := of_decide_eq_true hc
        obtain ⟨x, y, st, rfl, h⟩ := mp_s2_of h
        cases cd with
        | eq => exact lv_icmp_eq hx hb hg hc (fun q => h.1 q H locs ls hP hD hS hl) (fun q => h.2 (mp_i32_ne q) H locs ls hP hD hS hl)
        | ne => exact lv_icmp_ne hx hb hg hc (fun q => h.1 (mp_i32_ne q) H locs ls hP hD hS hl) (fun q => h.2 q H locs ls hP hD hS hl)
        | lt => exact lv_icmp_lt hx hb hg hc (fun q => h.1 (mp_i32_lt.mp q) H locs ls hP hD hS hl) (fun q => h.2 (by rw [mp_i32_lt] at q; omega) H locs ls hP hD hS hl)
        | ge => exact lv_icmp_ge hx hb hg hc (fun q => h.1 (mp_i32_le.mp q) H locs ls hP hD hS hl) (fun q => h.2 (by rw [mp_i32_le] at q; omega) H locs ls hP hD hS hl)
        | gt => exact lv_icmp_gt hx hb hg hc (fun q => h.1 (mp_i32_lt.mp q) H locs ls hP hD hS hl) (fun q => h.2 (by rw [mp_i32_lt] at q; omega) H locs ls hP hD hS hl)
        | le => exact lv_icmp_le hx hb hg hc (fun q => h.1 (mp_i32_le.mp q) H locs ls hP hD hS hl) (fun q => h.2 (by rw [mp_i32_le] at q; omega) H locs ls hP hD hS hl)
    | _ => exact h.elim
/-- the same, where the room is not closed: number of locals and kind said apart -/
theorem mp_runR {E : mp_E} {X : mp_X} {M : mp_M} {N : Nat} (hB : mp_pk M.2.1.data.toList = N) (hF : mp_F E X M) {t : mp_T} (ht : mp_Tok M.1 t) {nL : Nat} {ini : Bool} (h1 : M.2.2.1 = nL) (h2 : M.2.2.2.2.2 = ini) (b : List mp_I) {pc : Nat} {lv : List (Nat × Value)} {st : List Value} {ws : va_W} {k n : Nat} (hd : mp_dec N nL ini t b pc = true) (h : mp_wp E X nL t M.2.2.2.1.2.1 M.2.2.2.1.2.2.1 b pc lv st ws k n) : mp_W E X nL pc lv st ws k n := by
  subst h1; subst h2; exact mp_run hB hF ht b hd h
