/-! OFFERS: the code -/
def OT (A : AS) (h : jHp) : Prop := MK A h ∧ ∀ o, o < 4 → CTl A o 0 h
theorem shl_bit (P k j : Nat) : (P * 2 ^ k).testBit j = (decide (k ≤ j) && P.testBit (j - k)) := by
  rw [Nat.mul_comm, Nat.testBit_two_pow_mul]
theorem hld_sl {A : AS} (w : WF A) (E : Nat) : nfo (fun o m => m ||| tP A o 0 (prt o (slM A E)) * 2 ^ (8 * o)) 4 0 = slM A (oHld A E) := by
  have hno := w.2.1
  apply Nat.eq_of_testBit_eq
  intro j
  have hs := slM_bit A (oHld A E) (aNb A) j
  unfold slM
  rw [Bool.eq_iff_iff, nfo_or_bit, hs]
  constructor
  · rintro ⟨o, ho, h⟩
    rw [shl_bit, Bool.and_eq_true, decide_eq_true_iff] at h
    obtain ⟨h1, h2⟩ := h
    have ht := (tP_spec w (f := o) (l := 0) (prt_slM_lt w o E)).1
    have hi := bits_lt ht h2
    obtain ⟨b1, b2, b3⟩ := bAt_ok w hi
    have hb : (sTk A o E).testBit (bAt A o (j - 8 * o)) = true := by
      rw [← tP_set w o E, pS_bit w ht hi]; exact h2
    refine ⟨bAt A o (j - 8 * o), b1, ?_, ?_⟩
    · unfold oHld
      rw [nfo_or_bit]
      have hoo := (w.2.2.1.2.1 _ b1).2.1
      rw [b2] at hoo
      exact ⟨o, hoo, by rw [sTk_off w]; exact hb⟩
    · unfold sSlot
      rw [b2, b3]
      omega
  · rintro ⟨b, h1, h2, h3⟩
    unfold oHld at h2
    rw [nfo_or_bit] at h2
    obtain ⟨o, ho, h4⟩ := h2
    rw [sTk_off w] at h4
    have hof := ((take_spec w o E).1 b h4).2
    have ht := (tP_spec w (f := o) (l := 0) (prt_slM_lt w o E)).1
    have hix := (sIdx_lt w h1).1
    have hix8 := (sIdx_lt w h1).2
    have hbt := bAt_idx w h1
    rw [hof] at hix hbt
    have := pS_bit w ht hix
    rw [hbt, tP_set w o E, h4] at this
    refine ⟨o, by omega, ?_⟩
    unfold sSlot at h3
    rw [hof] at h3
    rw [shl_bit, Bool.and_eq_true, decide_eq_true_iff]
    refine ⟨by omega, ?_⟩
    have e : j - 8 * o = sIdx A b := by omega
    rw [e]; exact this.symm
theorem e_O_holds {A : AS} {h : jHp} (x : OT A h) (E : Nat) : f_O_holds [.ref 84, .int (nI (slM A E))] h = some (some (.int (nI (slM A (oHld A E)))), h) := by
  have hs := x.1.1.1
  have w := x.1.1.2.1
  rw [← hld_sl w]
  have hX := slM_lt w E
  have hL := loop_wp (lb := 1) (lc := 2) (c := lc_O_holds_1) (b := lb_O_holds_1) (u := lu_O_holds_1) 4
    (fun o st => ∃ v, st = ([.ref 84, .int (nI (slM A E)), .int (nI (nfo (fun o m => m ||| tP A o 0 (prt o (slM A E)) * 2 ^ (8 * o)) o 0)), .int (nI o), v], h))
    (fun r => ∃ v, r = (.inl 0, ([.ref 84, .int (nI (slM A E)), .int (nI (nfo (fun o m => m ||| tP A o 0 (prt o (slM A E)) * 2 ^ (8 * o)) 4 0)), .int (nI 4), v], h)))
    ?_ ?_ ([.ref 84, .int (nI (slM A E)), .int (nI 0), .int (nI 0), .null], h) ⟨_, rfl⟩
  · obtain ⟨r, e, v, rfl⟩ := hL
    generalize nfo (fun o m => m ||| tP A o 0 (prt o (slM A E)) * 2 ^ (8 * o)) 4 0 = R at *
    simp only [nI_0] at e
    simp (disch := first | assumption | omega) [f_O_holds, body_O_holds, j_meth, j_out, j_rok, j_pad, lg_sl, s_seq_w, isN_inl, isN_inr, s_if, jb, x_c, x_iloc, x_aloc, x_lloc, x_bin, x_un, o_add, o_sub, o_mul, o_and, o_or, o_xor, o_shl, o_shr, o_ushr, o_max, o_min, o_i2b, o_i2c, o_i2l, o_l2i, x_fld, j_fget, x_idx, j_aget, x_len, j_alen, x_ofb, x_ite, xs_nil, xs_cons, x_callv, x_calls, s_callv, s_calls, j_recv, j_ret, j_retv, b_cmp, b_and, b_or, b_not, b_ofi, b_ite, b_true, s_skip, s_set, j_ty, j_lset, j_kill, s_inc, s_fput, j_fput, s_fop, s_aput, j_aput, j_nar, s_aop, s_ret, s_retv, s_go, s_pop, x_linc, x_finc, Value.category, if_icmp.holds, List.flatMap_cons, List.flatMap_nil, List.length_cons, List.length_append, List.length_nil, List.set_cons_succ, List.set_cons_zero, List.getElem?_cons_succ, List.getElem?_cons_zero, List.replicate, ite_and', ite_or', ite_int', nI_leI, nI_ltI, nI_eq, nI_add, nI_1, pk_mul, nI_clamp, n_in', nI_pos', nI_pos, n_m1e, n_01, n_10, sT_1, sR_1_0, sR_1_1, sR_1_2, sR_1_3, sR_1_4, sR_1_5, sR_1_6, sR_1_7, sR_1_8, sR_1_9, sT_2, sT_3, sT_4, sT_5, sT_6, sT_7, sT_8, sT_9, sT_10, sT_11, sT_12, sT_13, sT_14, sR_2_1, sR_2_2, sR_2_3, sR_2_4, sR_2_5, sR_2_6, sR_2_7, sR_2_8, sR_2_9, sR_2_10, sR_2_11, sR_2_12, sT_15, sT_16, sT_17, sT_18, sT_19, sT_20, sT_21, sT_22, sT_23, sR_15_1, sR_15_2, sR_15_3, sR_15_4, sR_15_5, sR_15_6, sR_15_7, sR_15_8, sT_24, sT_25, sT_26, sT_27, sT_28, sT_29, sR_24_1, sR_24_2, sR_24_3, sR_24_4, sR_24_5, sT_71, sT_72, sR_71_0, sR_71_1, sR_71_2, sR_71_3, sR_71_4, sT_73, sT_74, sT_75, sR_73_0, sR_73_1, sR_73_2, sR_73_3, sR_73_4, sR_73_5, sT_84, sT_85, sT_86, sT_87, sR_84_0, sR_84_1, sR_84_2, sR_84_3, sR_84_4, sR_84_5, sT_88, sT_89, sR_88_0, sT_90, sT_91, sR_90_0, nI_0, e]
  · rintro o st ho ⟨v, rfl⟩
    left
    have ep := e_B_partOf (h := h) ho hX
    have hP := prt_slM_lt w o E
    have ct := x.2 o ho _ hP
    rw [Nat.mul_zero, Nat.zero_add] at ct
    have h8 := nOf_le w o
    have hp8 : 2 ^ nOf A o ≤ 256 := Nat.pow_le_pow_right (n := 2) (by decide) h8
    obtain ⟨t1, -, -, r4, -, -, t7, -, -, r30⟩ := DSh_of hs ho
    have t30 := sT_30 hs
    have n7 : dA o + 7 ≠ 0 := by omega
    have n0 : dA o ≠ 0 := by unfold dA; omega
    have hE : nI (tE A o 0 (prt o (slM A E))) &&& nI 255 = nI (tP A o 0 (prt o (slM A E))) := by rw [n_and, tE_and]
    have hsh := n_shl (tP A o 0 (prt o (slM A E))) (k := 8 * o) (by omega)
    have hc : o * 8 = 8 * o := Nat.mul_comm _ _
    have hst : nfo (fun o m => m ||| tP A o 0 (prt o (slM A E)) * 2 ^ (8 * o)) (o + 1) 0 = nfo (fun o m => m ||| tP A o 0 (prt o (slM A E)) * 2 ^ (8 * o)) o 0 ||| tP A o 0 (prt o (slM A E)) * 2 ^ (8 * o) := rfl
    rw [hst]
    refine ⟨([.ref 84, .int (nI (slM A E)), .int (nI (nfo (fun o m => m ||| tP A o 0 (prt o (slM A E)) * 2 ^ (8 * o)) o 0 ||| tP A o 0 (prt o (slM A E)) * 2 ^ (8 * o))), .int (nI (o + 1)), .int (nI (tP A o 0 (prt o (slM A E))))], h), ?_, _, rfl⟩
    generalize nfo (fun o m => m ||| tP A o 0 (prt o (slM A E)) * 2 ^ (8 * o)) o 0 = M at *
    generalize tE A o 0 (prt o (slM A E)) = TE at *
    generalize tP A o 0 (prt o (slM A E)) = T at *
    generalize T * 2 ^ (8 * o) = TS at *
    generalize prt o (slM A E) = P at *
    generalize dA o + 7 = D7 at *
    generalize dA o = D at *
    clear x
    simp (disch := first | assumption | omega) [lstp, lc_O_holds_1, lb_O_holds_1, lu_O_holds_1, j_meth, j_out, j_rok, j_pad, lg_sl, s_seq_w, isN_inl, isN_inr, s_if, jb, x_c, x_iloc, x_aloc, x_lloc, x_bin, x_un, o_add, o_sub, o_mul, o_and, o_or, o_xor, o_shl, o_shr, o_ushr, o_max, o_min, o_i2b, o_i2c, o_i2l, o_l2i, x_fld, j_fget, x_idx, j_aget, x_len, j_alen, x_ofb, x_ite, xs_nil, xs_cons, x_callv, x_calls, s_callv, s_calls, j_recv, j_ret, j_retv, b_cmp, b_and, b_or, b_not, b_ofi, b_ite, b_true, s_skip, s_set, j_ty, j_lset, j_kill, s_inc, s_fput, j_fput, s_fop, s_aput, j_aput, j_nar, s_aop, s_ret, s_retv, s_go, s_pop, x_linc, x_finc, Value.category, if_icmp.holds, List.flatMap_cons, List.flatMap_nil, List.length_cons, List.length_append, List.length_nil, List.set_cons_succ, List.set_cons_zero, List.getElem?_cons_succ, List.getElem?_cons_zero, List.replicate, ite_and', ite_or', ite_int', nI_leI, nI_ltI, nI_eq, nI_add, nI_1, pk_mul, nI_clamp, n_in', nI_pos', nI_pos, n_m1e, n_01, n_10, sT_1, sR_1_0, sR_1_1, sR_1_2, sR_1_3, sR_1_4, sR_1_5, sR_1_6, sR_1_7, sR_1_8, sR_1_9, sT_2, sT_3, sT_4, sT_5, sT_6, sT_7, sT_8, sT_9, sT_10, sT_11, sT_12, sT_13, sT_14, sR_2_1, sR_2_2, sR_2_3, sR_2_4, sR_2_5, sR_2_6, sR_2_7, sR_2_8, sR_2_9, sR_2_10, sR_2_11, sR_2_12, sT_15, sT_16, sT_17, sT_18, sT_19, sT_20, sT_21, sT_22, sT_23, sR_15_1, sR_15_2, sR_15_3, sR_15_4, sR_15_5, sR_15_6, sR_15_7, sR_15_8, sT_24, sT_25, sT_26, sT_27, sT_28, sT_29, sR_24_1, sR_24_2, sR_24_3, sR_24_4, sR_24_5, sT_71, sT_72, sR_71_0, sR_71_1, sR_71_2, sR_71_3, sR_71_4, sT_73, sT_74, sT_75, sR_73_0, sR_73_1, sR_73_2, sR_73_3, sR_73_4, sR_73_5, sT_84, sT_85, sT_86, sT_87, sR_84_0, sR_84_1, sR_84_2, sR_84_3, sR_84_4, sR_84_5, sT_88, sT_89, sR_88_0, sT_90, sT_91, sR_90_0, ho, t30, r30, n0, t1, r4, n7, ep, t7, ct, hE, hc, hsh, n_or]
  · rintro st ⟨v, rfl⟩
    refine ⟨_, ?_, v, rfl⟩
    simp (disch := first | assumption | omega) [lstp, lc_O_holds_1, lb_O_holds_1, lu_O_holds_1, j_meth, j_out, j_rok, j_pad, lg_sl, s_seq_w, isN_inl, isN_inr, s_if, jb, x_c, x_iloc, x_aloc, x_lloc, x_bin, x_un, o_add, o_sub, o_mul, o_and, o_or, o_xor, o_shl, o_shr, o_ushr, o_max, o_min, o_i2b, o_i2c, o_i2l, o_l2i, x_fld, j_fget, x_idx, j_aget, x_len, j_alen, x_ofb, x_ite, xs_nil, xs_cons, x_callv, x_calls, s_callv, s_calls, j_recv, j_ret, j_retv, b_cmp, b_and, b_or, b_not, b_ofi, b_ite, b_true, s_skip, s_set, j_ty, j_lset, j_kill, s_inc, s_fput, j_fput, s_fop, s_aput, j_aput, j_nar, s_aop, s_ret, s_retv, s_go, s_pop, x_linc, x_finc, Value.category, if_icmp.holds, List.flatMap_cons, List.flatMap_nil, List.length_cons, List.length_append, List.length_nil, List.set_cons_succ, List.set_cons_zero, List.getElem?_cons_succ, List.getElem?_cons_zero, List.replicate, ite_and', ite_or', ite_int', nI_leI, nI_ltI, nI_eq, nI_add, nI_1, pk_mul, nI_clamp, n_in', nI_pos', nI_pos, n_m1e, n_01, n_10, sT_1, sR_1_0, sR_1_1, sR_1_2, sR_1_3, sR_1_4, sR_1_5, sR_1_6, sR_1_7, sR_1_8, sR_1_9, sT_2, sT_3, sT_4, sT_5, sT_6, sT_7, sT_8, sT_9, sT_10, sT_11, sT_12, sT_13, sT_14, sR_2_1, sR_2_2, sR_2_3, sR_2_4, sR_2_5, sR_2_6, sR_2_7, sR_2_8, sR_2_9, sR_2_10, sR_2_11, sR_2_12, sT_15, sT_16, sT_17, sT_18, sT_19, sT_20, sT_21, sT_22, sT_23, sR_15_1, sR_15_2, sR_15_3, sR_15_4, sR_15_5, sR_15_6, sR_15_7, sR_15_8, sT_24, sT_25, sT_26, sT_27, sT_28, sT_29, sR_24_1, sR_24_2, sR_24_3, sR_24_4, sR_24_5, sT_71, sT_72, sR_71_0, sR_71_1, sR_71_2, sR_71_3, sR_71_4, sT_73, sT_74, sT_75, sR_73_0, sR_73_1, sR_73_2, sR_73_3, sR_73_4, sR_73_5, sT_84, sT_85, sT_86, sT_87, sR_84_0, sR_84_1, sR_84_2, sR_84_3, sR_84_4, sR_84_5, sT_88, sT_89, sR_88_0, sT_90, sT_91, sR_90_0]
theorem sl_and {A : AS} (w : WF A) (H p : Nat) : slM A H &&& slP A p = slM A (H &&& setP A p) := by
  apply Nat.eq_of_testBit_eq
  intro j
  rw [Bool.eq_iff_iff, Nat.testBit_and, Bool.and_eq_true, slP_bit]
  have h1 := slM_bit A H (aNb A) j
  have h2 := slM_bit A (H &&& setP A p) (aNb A) j
  unfold slM
  rw [h1, h2]
  constructor
  · rintro ⟨⟨b, b1, b2, b3⟩, c, c1, c2, c3⟩
    have := sSlot_inj w c1 b1 (c3.trans b3.symm)
    subst this
    exact ⟨c, b1, by rw [Nat.testBit_and, b2, setP_bit]; simp [b1, c2], b3⟩
  · rintro ⟨b, b1, b2, b3⟩
    rw [Nat.testBit_and, setP_bit] at b2
    simp only [Bool.and_eq_true, decide_eq_true_eq] at b2
    exact ⟨⟨b, b1, b2.1, b3⟩, b, b1, b2.2.2, b3⟩
theorem e_O_isHeldTwice {A : AS} {h : jHp} (x : MK A h) {H : Nat} (hH : H < 2 ^ aNb A) (c8 : hI h 84 8 = nI (slM A H)) : f_O_isHeldTwice [.ref 84] h = some (some (.int (if popN 32 (sPpl A H) = popN 32 H then 0 else 1)), h) := by
  have w := x.1.2.1
  have hs := x.1.1
  have cb := x.1.2.2.1
  have cp := x.1.2.2.2
  have hn := w.1.1
  have c0 := cp.1
  have hres : (fst1 (fun p => decide (1 < popN 32 (H &&& setP A p))) (aNp A)).isNone = decide (popN 32 (sPpl A H) = popN 32 H) := by
    rw [Bool.eq_iff_iff, fst1_all, decide_eq_true_iff, sMat_pop w hH, ← mat_pop w]
    simp only [decide_eq_false_iff_not]
    exact ⟨fun h p hp => by have := h p hp; omega, fun h p hp => by have := h p hp; omega⟩
  have step : ∀ p, p < aNp A → lstp 1 2 lc_O_isHeldTwice_1 lb_O_isHeldTwice_1 lu_O_isHeldTwice_1 ([.ref 84, .int (nI p)], h) = some (if decide (1 < popN 32 (H &&& setP A p)) = true then .inr (.inr (some (.int (nI 1))), ([.ref 84, .int (nI p)], h)) else .inl ([.ref 84, .int (nI (p + 1))], h)) := by
    intro p hp
    have s1 := (cb.2.2.2 p (by omega)).2.2
    have hlt : H &&& setP A p < 2 ^ aNb A := Nat.lt_of_le_of_lt Nat.and_le_left hH
    have eb := e_J_bitCount h (x := slM A (H &&& setP A p)) (slM_lt w _)
    rw [pop_sl w hlt] at eb
    have hpl := popN_le 32 (H &&& setP A p)
    have hX : nI (slM A H) &&& nI (slP A p) = nI (slM A (H &&& setP A p)) := by rw [n_and, sl_and w]
    generalize slM A (H &&& setP A p) = X at *
    generalize popN 32 (H &&& setP A p) = n at *
    by_cases y : 1 < n
    · simp (disch := first | assumption | omega) [lstp, lc_O_isHeldTwice_1, lb_O_isHeldTwice_1, lu_O_isHeldTwice_1, j_meth, j_out, j_rok, j_pad, lg_sl, s_seq_w, isN_inl, isN_inr, s_if, jb, x_c, x_iloc, x_aloc, x_lloc, x_bin, x_un, o_add, o_sub, o_mul, o_and, o_or, o_xor, o_shl, o_shr, o_ushr, o_max, o_min, o_i2b, o_i2c, o_i2l, o_l2i, x_fld, j_fget, x_idx, j_aget, x_len, j_alen, x_ofb, x_ite, xs_nil, xs_cons, x_callv, x_calls, s_callv, s_calls, j_recv, j_ret, j_retv, b_cmp, b_and, b_or, b_not, b_ofi, b_ite, b_true, s_skip, s_set, j_ty, j_lset, j_kill, s_inc, s_fput, j_fput, s_fop, s_aput, j_aput, j_nar, s_aop, s_ret, s_retv, s_go, s_pop, x_linc, x_finc, Value.category, if_icmp.holds, List.flatMap_cons, List.flatMap_nil, List.length_cons, List.length_append, List.length_nil, List.set_cons_succ, List.set_cons_zero, List.getElem?_cons_succ, List.getElem?_cons_zero, List.replicate, ite_and', ite_or', ite_int', nI_leI, nI_ltI, nI_eq, nI_add, nI_1, pk_mul, nI_clamp, n_in', nI_pos', nI_pos, n_m1e, n_01, n_10, sT_1, sR_1_0, sR_1_1, sR_1_2, sR_1_3, sR_1_4, sR_1_5, sR_1_6, sR_1_7, sR_1_8, sR_1_9, sT_2, sT_3, sT_4, sT_5, sT_6, sT_7, sT_8, sT_9, sT_10, sT_11, sT_12, sT_13, sT_14, sR_2_1, sR_2_2, sR_2_3, sR_2_4, sR_2_5, sR_2_6, sR_2_7, sR_2_8, sR_2_9, sR_2_10, sR_2_11, sR_2_12, sT_15, sT_16, sT_17, sT_18, sT_19, sT_20, sT_21, sT_22, sT_23, sR_15_1, sR_15_2, sR_15_3, sR_15_4, sR_15_5, sR_15_6, sR_15_7, sR_15_8, sT_24, sT_25, sT_26, sT_27, sT_28, sT_29, sR_24_1, sR_24_2, sR_24_3, sR_24_4, sR_24_5, sT_71, sT_72, sR_71_0, sR_71_1, sR_71_2, sR_71_3, sR_71_4, sT_73, sT_74, sT_75, sR_73_0, sR_73_1, sR_73_2, sR_73_3, sR_73_4, sR_73_5, sT_84, sT_85, sT_86, sT_87, sR_84_0, sR_84_1, sR_84_2, sR_84_3, sR_84_4, sR_84_5, sT_88, sT_89, sR_88_0, sT_90, sT_91, sR_90_0, c0, hp, c8, s1, hX, eb, y]
    · simp (disch := first | assumption | omega) [lstp, lc_O_isHeldTwice_1, lb_O_isHeldTwice_1, lu_O_isHeldTwice_1, j_meth, j_out, j_rok, j_pad, lg_sl, s_seq_w, isN_inl, isN_inr, s_if, jb, x_c, x_iloc, x_aloc, x_lloc, x_bin, x_un, o_add, o_sub, o_mul, o_and, o_or, o_xor, o_shl, o_shr, o_ushr, o_max, o_min, o_i2b, o_i2c, o_i2l, o_l2i, x_fld, j_fget, x_idx, j_aget, x_len, j_alen, x_ofb, x_ite, xs_nil, xs_cons, x_callv, x_calls, s_callv, s_calls, j_recv, j_ret, j_retv, b_cmp, b_and, b_or, b_not, b_ofi, b_ite, b_true, s_skip, s_set, j_ty, j_lset, j_kill, s_inc, s_fput, j_fput, s_fop, s_aput, j_aput, j_nar, s_aop, s_ret, s_retv, s_go, s_pop, x_linc, x_finc, Value.category, if_icmp.holds, List.flatMap_cons, List.flatMap_nil, List.length_cons, List.length_append, List.length_nil, List.set_cons_succ, List.set_cons_zero, List.getElem?_cons_succ, List.getElem?_cons_zero, List.replicate, ite_and', ite_or', ite_int', nI_leI, nI_ltI, nI_eq, nI_add, nI_1, pk_mul, nI_clamp, n_in', nI_pos', nI_pos, n_m1e, n_01, n_10, sT_1, sR_1_0, sR_1_1, sR_1_2, sR_1_3, sR_1_4, sR_1_5, sR_1_6, sR_1_7, sR_1_8, sR_1_9, sT_2, sT_3, sT_4, sT_5, sT_6, sT_7, sT_8, sT_9, sT_10, sT_11, sT_12, sT_13, sT_14, sR_2_1, sR_2_2, sR_2_3, sR_2_4, sR_2_5, sR_2_6, sR_2_7, sR_2_8, sR_2_9, sR_2_10, sR_2_11, sR_2_12, sT_15, sT_16, sT_17, sT_18, sT_19, sT_20, sT_21, sT_22, sT_23, sR_15_1, sR_15_2, sR_15_3, sR_15_4, sR_15_5, sR_15_6, sR_15_7, sR_15_8, sT_24, sT_25, sT_26, sT_27, sT_28, sT_29, sR_24_1, sR_24_2, sR_24_3, sR_24_4, sR_24_5, sT_71, sT_72, sR_71_0, sR_71_1, sR_71_2, sR_71_3, sR_71_4, sT_73, sT_74, sT_75, sR_73_0, sR_73_1, sR_73_2, sR_73_3, sR_73_4, sR_73_5, sT_84, sT_85, sT_86, sT_87, sR_84_0, sR_84_1, sR_84_2, sR_84_3, sR_84_4, sR_84_5, sT_88, sT_89, sR_88_0, sT_90, sT_91, sR_90_0, c0, hp, c8, s1, hX, eb, y]
  have hL := loop_1s (lb := 1) (lc := 2) (c := lc_O_isHeldTwice_1) (b := lb_O_isHeldTwice_1) (u := lu_O_isHeldTwice_1) (aNp A) (fun p => (([.ref 84, .int (nI p)], h) : jS)) (fun p => decide (1 < popN 32 (H &&& setP A p))) (fun p => (.inr (some (.int (nI 1))), ([.ref 84, .int (nI p)], h))) step
    (by simp (disch := first | assumption | omega) [lstp, lc_O_isHeldTwice_1, lb_O_isHeldTwice_1, lu_O_isHeldTwice_1, j_meth, j_out, j_rok, j_pad, lg_sl, s_seq_w, isN_inl, isN_inr, s_if, jb, x_c, x_iloc, x_aloc, x_lloc, x_bin, x_un, o_add, o_sub, o_mul, o_and, o_or, o_xor, o_shl, o_shr, o_ushr, o_max, o_min, o_i2b, o_i2c, o_i2l, o_l2i, x_fld, j_fget, x_idx, j_aget, x_len, j_alen, x_ofb, x_ite, xs_nil, xs_cons, x_callv, x_calls, s_callv, s_calls, j_recv, j_ret, j_retv, b_cmp, b_and, b_or, b_not, b_ofi, b_ite, b_true, s_skip, s_set, j_ty, j_lset, j_kill, s_inc, s_fput, j_fput, s_fop, s_aput, j_aput, j_nar, s_aop, s_ret, s_retv, s_go, s_pop, x_linc, x_finc, Value.category, if_icmp.holds, List.flatMap_cons, List.flatMap_nil, List.length_cons, List.length_append, List.length_nil, List.set_cons_succ, List.set_cons_zero, List.getElem?_cons_succ, List.getElem?_cons_zero, List.replicate, ite_and', ite_or', ite_int', nI_leI, nI_ltI, nI_eq, nI_add, nI_1, pk_mul, nI_clamp, n_in', nI_pos', nI_pos, n_m1e, n_01, n_10, sT_1, sR_1_0, sR_1_1, sR_1_2, sR_1_3, sR_1_4, sR_1_5, sR_1_6, sR_1_7, sR_1_8, sR_1_9, sT_2, sT_3, sT_4, sT_5, sT_6, sT_7, sT_8, sT_9, sT_10, sT_11, sT_12, sT_13, sT_14, sR_2_1, sR_2_2, sR_2_3, sR_2_4, sR_2_5, sR_2_6, sR_2_7, sR_2_8, sR_2_9, sR_2_10, sR_2_11, sR_2_12, sT_15, sT_16, sT_17, sT_18, sT_19, sT_20, sT_21, sT_22, sT_23, sR_15_1, sR_15_2, sR_15_3, sR_15_4, sR_15_5, sR_15_6, sR_15_7, sR_15_8, sT_24, sT_25, sT_26, sT_27, sT_28, sT_29, sR_24_1, sR_24_2, sR_24_3, sR_24_4, sR_24_5, sT_71, sT_72, sR_71_0, sR_71_1, sR_71_2, sR_71_3, sR_71_4, sT_73, sT_74, sT_75, sR_73_0, sR_73_1, sR_73_2, sR_73_3, sR_73_4, sR_73_5, sT_84, sT_85, sT_86, sT_87, sR_84_0, sR_84_1, sR_84_2, sR_84_3, sR_84_4, sR_84_5, sT_88, sT_89, sR_88_0, sT_90, sT_91, sR_90_0, c0])
  cases hf : fst1 (fun p => decide (1 < popN 32 (H &&& setP A p))) (aNp A) with
  | none =>
    rw [hf] at hL hres
    rw [if_pos (decide_eq_true_iff.mp hres.symm)]
    simp only [nI_0] at hL
    simp (disch := first | assumption | omega) [f_O_isHeldTwice, body_O_isHeldTwice, j_meth, j_out, j_rok, j_pad, lg_sl, s_seq_w, isN_inl, isN_inr, s_if, jb, x_c, x_iloc, x_aloc, x_lloc, x_bin, x_un, o_add, o_sub, o_mul, o_and, o_or, o_xor, o_shl, o_shr, o_ushr, o_max, o_min, o_i2b, o_i2c, o_i2l, o_l2i, x_fld, j_fget, x_idx, j_aget, x_len, j_alen, x_ofb, x_ite, xs_nil, xs_cons, x_callv, x_calls, s_callv, s_calls, j_recv, j_ret, j_retv, b_cmp, b_and, b_or, b_not, b_ofi, b_ite, b_true, s_skip, s_set, j_ty, j_lset, j_kill, s_inc, s_fput, j_fput, s_fop, s_aput, j_aput, j_nar, s_aop, s_ret, s_retv, s_go, s_pop, x_linc, x_finc, Value.category, if_icmp.holds, List.flatMap_cons, List.flatMap_nil, List.length_cons, List.length_append, List.length_nil, List.set_cons_succ, List.set_cons_zero, List.getElem?_cons_succ, List.getElem?_cons_zero, List.replicate, ite_and', ite_or', ite_int', nI_leI, nI_ltI, nI_eq, nI_add, nI_1, pk_mul, nI_clamp, n_in', nI_pos', nI_pos, n_m1e, n_01, n_10, sT_1, sR_1_0, sR_1_1, sR_1_2, sR_1_3, sR_1_4, sR_1_5, sR_1_6, sR_1_7, sR_1_8, sR_1_9, sT_2, sT_3, sT_4, sT_5, sT_6, sT_7, sT_8, sT_9, sT_10, sT_11, sT_12, sT_13, sT_14, sR_2_1, sR_2_2, sR_2_3, sR_2_4, sR_2_5, sR_2_6, sR_2_7, sR_2_8, sR_2_9, sR_2_10, sR_2_11, sR_2_12, sT_15, sT_16, sT_17, sT_18, sT_19, sT_20, sT_21, sT_22, sT_23, sR_15_1, sR_15_2, sR_15_3, sR_15_4, sR_15_5, sR_15_6, sR_15_7, sR_15_8, sT_24, sT_25, sT_26, sT_27, sT_28, sT_29, sR_24_1, sR_24_2, sR_24_3, sR_24_4, sR_24_5, sT_71, sT_72, sR_71_0, sR_71_1, sR_71_2, sR_71_3, sR_71_4, sT_73, sT_74, sT_75, sR_73_0, sR_73_1, sR_73_2, sR_73_3, sR_73_4, sR_73_5, sT_84, sT_85, sT_86, sT_87, sR_84_0, sR_84_1, sR_84_2, sR_84_3, sR_84_4, sR_84_5, sT_88, sT_89, sR_88_0, sT_90, sT_91, sR_90_0, nI_0, hL]
  | some i =>
    rw [hf] at hL hres
    rw [if_neg (decide_eq_false_iff_not.mp hres.symm)]
    simp only [nI_0] at hL
    simp (disch := first | assumption | omega) [f_O_isHeldTwice, body_O_isHeldTwice, j_meth, j_out, j_rok, j_pad, lg_sl, s_seq_w, isN_inl, isN_inr, s_if, jb, x_c, x_iloc, x_aloc, x_lloc, x_bin, x_un, o_add, o_sub, o_mul, o_and, o_or, o_xor, o_shl, o_shr, o_ushr, o_max, o_min, o_i2b, o_i2c, o_i2l, o_l2i, x_fld, j_fget, x_idx, j_aget, x_len, j_alen, x_ofb, x_ite, xs_nil, xs_cons, x_callv, x_calls, s_callv, s_calls, j_recv, j_ret, j_retv, b_cmp, b_and, b_or, b_not, b_ofi, b_ite, b_true, s_skip, s_set, j_ty, j_lset, j_kill, s_inc, s_fput, j_fput, s_fop, s_aput, j_aput, j_nar, s_aop, s_ret, s_retv, s_go, s_pop, x_linc, x_finc, Value.category, if_icmp.holds, List.flatMap_cons, List.flatMap_nil, List.length_cons, List.length_append, List.length_nil, List.set_cons_succ, List.set_cons_zero, List.getElem?_cons_succ, List.getElem?_cons_zero, List.replicate, ite_and', ite_or', ite_int', nI_leI, nI_ltI, nI_eq, nI_add, nI_1, pk_mul, nI_clamp, n_in', nI_pos', nI_pos, n_m1e, n_01, n_10, sT_1, sR_1_0, sR_1_1, sR_1_2, sR_1_3, sR_1_4, sR_1_5, sR_1_6, sR_1_7, sR_1_8, sR_1_9, sT_2, sT_3, sT_4, sT_5, sT_6, sT_7, sT_8, sT_9, sT_10, sT_11, sT_12, sT_13, sT_14, sR_2_1, sR_2_2, sR_2_3, sR_2_4, sR_2_5, sR_2_6, sR_2_7, sR_2_8, sR_2_9, sR_2_10, sR_2_11, sR_2_12, sT_15, sT_16, sT_17, sT_18, sT_19, sT_20, sT_21, sT_22, sT_23, sR_15_1, sR_15_2, sR_15_3, sR_15_4, sR_15_5, sR_15_6, sR_15_7, sR_15_8, sT_24, sT_25, sT_26, sT_27, sT_28, sT_29, sR_24_1, sR_24_2, sR_24_3, sR_24_4, sR_24_5, sT_71, sT_72, sR_71_0, sR_71_1, sR_71_2, sR_71_3, sR_71_4, sT_73, sT_74, sT_75, sR_73_0, sR_73_1, sR_73_2, sR_73_3, sR_73_4, sR_73_5, sT_84, sT_85, sT_86, sT_87, sR_84_0, sR_84_1, sR_84_2, sR_84_3, sR_84_4, sR_84_5, sT_88, sT_89, sR_88_0, sT_90, sT_91, sR_90_0, nI_0, hL, n_e1]
/-- the LISTS of the Offers -/
def RO (A : AS) (L : Nat → List Nat) (h : jHp) : Prop := ∀ p, p < aNp A → hI h 86 p = nI (L p).length ∧ ∀ k, k < (L p).length → hI h 85 (5 * p + k) = nI ((L p).getD k 0)
/-- how far it has come -/
def RS (A : AS) (L : Nat → List Nat) (g : Nat → List Nat) (h : jHp) (p : Nat) : Prop := ∃ j, j ≤ (L p).length ∧ hI h 87 p = nI j ∧ (L p).drop j = g p
def W87 (a _j : Nat) : Prop := a = 87
theorem hd_none {A : AS} (w : WF A) {H p : Nat} : (slM A H &&& slP A p = 0) = ((sBnd A H p).isNone = true) := by
  rw [sl_and w]
  apply propext
  have hb : ∀ b, (H &&& setP A p).testBit b = true ↔ H.testBit b = true ∧ b < aNb A ∧ aPe A b = p := fun b => by
    rw [Nat.testBit_and, setP_bit]
    simp only [Bool.and_eq_true, decide_eq_true_eq]
  constructor
  · intro h
    cases hs : sBnd A H p with
    | none => rfl
    | some b =>
      obtain ⟨h1, h2, -⟩ := fst1_some hs
      simp only [Bool.and_eq_true, beq_iff_eq] at h2
      have h3 := slM_b w (H &&& setP A p) h1
      rw [h, (hb b).mpr ⟨h2.1, h1, h2.2⟩] at h3
      simp at h3
  · intro h
    apply Nat.eq_of_testBit_eq
    intro j
    rw [Nat.zero_testBit]
    cases q : (slM A (H &&& setP A p)).testBit j with
    | false => rfl
    | true =>
      unfold slM at q
      obtain ⟨b, b1, b2, -⟩ := (slM_bit A _ _ _).mp q
      obtain ⟨c1, c2, c3⟩ := (hb b).mp b2
      have := fst1_none (Option.isNone_iff_eq_none.mp h) b b1
      rw [c1, c3] at this
      simp at this
theorem e_O_nextOffers {A : AS} {L : Nat → List Nat} {s : OS} {h : jHp} (x : MK A h) (l : LK A L) (ro : RO A L h) (c8 : hI h 84 8 = nI (slM A s.2.1)) (rs : ∀ p, p < aNp A → RS A L s.2.2.2.2 h p) : ∃ h', f_O_nextOffers [.ref 84] h = some (some (.int (nI (slM A (oNow A s)))), h') ∧ Fr W87 h h' ∧ ∀ p, p < aNp A → RS A L (oTl A s) h' p := by
  have w := x.1.2.1
  have hs := x.1.1
  have cb := x.1.2.2.1
  have cp := x.1.2.2.2
  have hn := w.1.1
  have h20 := w.2.2.1.1
  have c0 := cp.1
  have hL := loop_wp (lb := 1) (lc := 2) (c := lc_O_nextOffers_1) (b := lb_O_nextOffers_1) (u := lu_O_nextOffers_1) (aNp A)
    (fun p st => ∃ h', st = ([.ref 84, .int (nI (slM A (nfo (fun p m => m ||| oM (oAct A s p)) p 0))), .int (nI p)], h') ∧ Fr W87 h h' ∧ (∀ q, q < p → RS A L (oTl A s) h' q) ∧ ∀ q, p ≤ q → hI h' 87 q = hI h 87 q)
    (fun r => ∃ h', r = (.inl 0, ([.ref 84, .int (nI (slM A (nfo (fun p m => m ||| oM (oAct A s p)) (aNp A) 0))), .int (nI (aNp A))], h')) ∧ Fr W87 h h' ∧ ∀ q, q < aNp A → RS A L (oTl A s) h' q)
    ?_ ?_ ([.ref 84, .int (nI 0), .int (nI 0)], h) ⟨h, by
      have : slM A (nfo (fun p m => m ||| oM (oAct A s p)) 0 0) = 0 := by
        apply Nat.eq_of_testBit_eq
        intro j
        rw [Nat.zero_testBit]
        cases q : (slM A (nfo (fun p m => m ||| oM (oAct A s p)) 0 0)).testBit j with
        | false => rfl
        | true =>
          unfold slM at q
          obtain ⟨b, -, b2, -⟩ := (slM_bit A _ _ _).mp q
          simp [nfo] at b2
      rw [this], Fr_refl _ _, fun q hq => by omega, fun q _ => rfl⟩
  · obtain ⟨r, e, h', rfl, f, c⟩ := hL
    refine ⟨h', ?_, f, c⟩
    have hd : nfo (fun p m => m ||| oM (oAct A s p)) (aNp A) 0 = oNow A s := rfl
    rw [hd] at e
    have hs1 := Fr_shape hs f
    generalize slM A (oNow A s) = R at *
    simp only [nI_0] at e
    simp (disch := first | assumption | omega) [f_O_nextOffers, body_O_nextOffers, j_meth, j_out, j_rok, j_pad, lg_sl, s_seq_w, isN_inl, isN_inr, s_if, jb, x_c, x_iloc, x_aloc, x_lloc, x_bin, x_un, o_add, o_sub, o_mul, o_and, o_or, o_xor, o_shl, o_shr, o_ushr, o_max, o_min, o_i2b, o_i2c, o_i2l, o_l2i, x_fld, j_fget, x_idx, j_aget, x_len, j_alen, x_ofb, x_ite, xs_nil, xs_cons, x_callv, x_calls, s_callv, s_calls, j_recv, j_ret, j_retv, b_cmp, b_and, b_or, b_not, b_ofi, b_ite, b_true, s_skip, s_set, j_ty, j_lset, j_kill, s_inc, s_fput, j_fput, s_fop, s_aput, j_aput, j_nar, s_aop, s_ret, s_retv, s_go, s_pop, x_linc, x_finc, Value.category, if_icmp.holds, List.flatMap_cons, List.flatMap_nil, List.length_cons, List.length_append, List.length_nil, List.set_cons_succ, List.set_cons_zero, List.getElem?_cons_succ, List.getElem?_cons_zero, List.replicate, ite_and', ite_or', ite_int', nI_leI, nI_ltI, nI_eq, nI_add, nI_1, pk_mul, nI_clamp, n_in', nI_pos', nI_pos, n_m1e, n_01, n_10, sT_1, sR_1_0, sR_1_1, sR_1_2, sR_1_3, sR_1_4, sR_1_5, sR_1_6, sR_1_7, sR_1_8, sR_1_9, sT_2, sT_3, sT_4, sT_5, sT_6, sT_7, sT_8, sT_9, sT_10, sT_11, sT_12, sT_13, sT_14, sR_2_1, sR_2_2, sR_2_3, sR_2_4, sR_2_5, sR_2_6, sR_2_7, sR_2_8, sR_2_9, sR_2_10, sR_2_11, sR_2_12, sT_15, sT_16, sT_17, sT_18, sT_19, sT_20, sT_21, sT_22, sT_23, sR_15_1, sR_15_2, sR_15_3, sR_15_4, sR_15_5, sR_15_6, sR_15_7, sR_15_8, sT_24, sT_25, sT_26, sT_27, sT_28, sT_29, sR_24_1, sR_24_2, sR_24_3, sR_24_4, sR_24_5, sT_71, sT_72, sR_71_0, sR_71_1, sR_71_2, sR_71_3, sR_71_4, sT_73, sT_74, sT_75, sR_73_0, sR_73_1, sR_73_2, sR_73_3, sR_73_4, sR_73_5, sT_84, sT_85, sT_86, sT_87, sR_84_0, sR_84_1, sR_84_2, sR_84_3, sR_84_4, sR_84_5, sT_88, sT_89, sR_88_0, sT_90, sT_91, sR_90_0, nI_0, e]
  · rintro p st hp ⟨h1, rfl, f1, d1, g1⟩
    left
    have hs1 := Fr_shape hs f1
    have x1 : MK A h1 := MK_fr x f1 fun a j q => by
      unfold W87 at q
      unfold cC isCA
      rintro (z | ⟨c, q1, q2, q3⟩ | z) <;> omega
    have c01 := x1.1.2.2.2.1
    have s1 := (x1.1.2.2.1.2.2.2 p (by omega)).2.2
    have c81 : hI h1 84 8 = nI (slM A s.2.1) := by rw [Fr_I f1 (by unfold W87; omega)]; exact c8
    obtain ⟨j, j1, j2, j3⟩ := rs p hp
    rw [← g1 p (Nat.le_refl _)] at j2
    have l5 := (l p).1
    have c86 := (ro p hp).1
    rw [← Fr_I f1 (a := 86) (by unfold W87; omega)] at c86
    have hnn := hd_none w (H := s.2.1) (p := p)
    have hX : nI (slM A s.2.1) &&& nI (slP A p) = nI (slM A s.2.1 &&& slP A p) := n_and _ _
    have hX0 : (nI (slM A s.2.1 &&& slP A p) = 0) = ((sBnd A s.2.1 p).isNone = true) := by
      rw [propext (n_eq0 (Nat.lt_of_le_of_lt Nat.and_le_left (slM_lt w _)))]; exact hnn
    have hst : nfo (fun p m => m ||| oM (oAct A s p)) (p + 1) 0 = nfo (fun p m => m ||| oM (oAct A s p)) p 0 ||| oM (oAct A s p) := rfl
    rw [hst]
    generalize nfo (fun p m => m ||| oM (oAct A s p)) p 0 = M at *
    by_cases z : (sBnd A s.2.1 p).isNone = true
    · by_cases zj : j < (L p).length
      · have hact : oAct A s p = some ((L p).getD j 0) := by
          unfold oAct
          rw [if_pos z, ← j3, List.head?_drop, List.getD_eq_getElem?_getD, List.getElem?_eq_getElem zj]
          rfl
        have hb := ((l p).2.2 _ (getD_mem' (d := 0) zj)).1
        have c85 := (ro p hp).2 j zj
        rw [← Fr_I f1 (a := 85) (by unfold W87; omega)] at c85
        have c88 := (x1.1.2.2.1.2.1 _ hb).2.2.2.2.2.1
        have hsl := sSlot_lt w hb
        have hsh := n_shl 1 (k := sSlot A ((L p).getD j 0)) hsl
        rw [Nat.one_mul] at hsh
        have hor : nI (slM A M) ||| nI (2 ^ sSlot A ((L p).getD j 0)) = nI (slM A (M ||| oM (oAct A s p))) := by
          rw [n_or, hact, slM_or]
          have : oM (some ((L p).getD j 0)) = 2 ^ (L p).getD j 0 := rfl
          rw [this, slM_1 w hb]
        refine ⟨([.ref 84, .int (nI (slM A (M ||| oM (oAct A s p)))), .int (nI (p + 1))], hSetI h1 87 p (nI (j + 1))), ?_, _, rfl, Fr_trans f1 (Fr_set _ rfl), fun q hq => ?_, fun q hq => ?_⟩
        · generalize slM A (M ||| oM (oAct A s p)) = R at *
          generalize slM A M = MM at *
          generalize (L p).getD j 0 = b at *
          generalize slM A s.2.1 &&& slP A p = Y at *
          have e5 : p * 5 + j = 5 * p + j := by omega
          clear hact d1 g1 rs ro l hnn hst
          simp (disch := first | assumption | omega) [lstp, lc_O_nextOffers_1, lb_O_nextOffers_1, lu_O_nextOffers_1, j_meth, j_out, j_rok, j_pad, lg_sl, s_seq_w, isN_inl, isN_inr, s_if, jb, x_c, x_iloc, x_aloc, x_lloc, x_bin, x_un, o_add, o_sub, o_mul, o_and, o_or, o_xor, o_shl, o_shr, o_ushr, o_max, o_min, o_i2b, o_i2c, o_i2l, o_l2i, x_fld, j_fget, x_idx, j_aget, x_len, j_alen, x_ofb, x_ite, xs_nil, xs_cons, x_callv, x_calls, s_callv, s_calls, j_recv, j_ret, j_retv, b_cmp, b_and, b_or, b_not, b_ofi, b_ite, b_true, s_skip, s_set, j_ty, j_lset, j_kill, s_inc, s_fput, j_fput, s_fop, s_aput, j_aput, j_nar, s_aop, s_ret, s_retv, s_go, s_pop, x_linc, x_finc, Value.category, if_icmp.holds, List.flatMap_cons, List.flatMap_nil, List.length_cons, List.length_append, List.length_nil, List.set_cons_succ, List.set_cons_zero, List.getElem?_cons_succ, List.getElem?_cons_zero, List.replicate, ite_and', ite_or', ite_int', nI_leI, nI_ltI, nI_eq, nI_add, nI_1, pk_mul, nI_clamp, n_in', nI_pos', nI_pos, n_m1e, n_01, n_10, sT_1, sR_1_0, sR_1_1, sR_1_2, sR_1_3, sR_1_4, sR_1_5, sR_1_6, sR_1_7, sR_1_8, sR_1_9, sT_2, sT_3, sT_4, sT_5, sT_6, sT_7, sT_8, sT_9, sT_10, sT_11, sT_12, sT_13, sT_14, sR_2_1, sR_2_2, sR_2_3, sR_2_4, sR_2_5, sR_2_6, sR_2_7, sR_2_8, sR_2_9, sR_2_10, sR_2_11, sR_2_12, sT_15, sT_16, sT_17, sT_18, sT_19, sT_20, sT_21, sT_22, sT_23, sR_15_1, sR_15_2, sR_15_3, sR_15_4, sR_15_5, sR_15_6, sR_15_7, sR_15_8, sT_24, sT_25, sT_26, sT_27, sT_28, sT_29, sR_24_1, sR_24_2, sR_24_3, sR_24_4, sR_24_5, sT_71, sT_72, sR_71_0, sR_71_1, sR_71_2, sR_71_3, sR_71_4, sT_73, sT_74, sT_75, sR_73_0, sR_73_1, sR_73_2, sR_73_3, sR_73_4, sR_73_5, sT_84, sT_85, sT_86, sT_87, sR_84_0, sR_84_1, sR_84_2, sR_84_3, sR_84_4, sR_84_5, sT_88, sT_89, sR_88_0, sT_90, sT_91, sR_90_0, c01, hp, c81, s1, hX, hX0, z, j2, c86, zj, e5, c85, c88, hsh, hor]
        · by_cases e : q = p
          · subst e
            refine ⟨j + 1, by omega, by rw [hI_setI, if_pos ⟨rfl, rfl⟩], ?_⟩
            unfold oTl
            rw [if_pos z, ← j3, List.tail_drop]
          · obtain ⟨i, i1, i2, i3⟩ := d1 q (by omega)
            exact ⟨i, i1, by rw [hI_setI, if_neg (fun y => e y.2)]; exact i2, i3⟩
        · rw [hI_setI, if_neg (by omega)]
          exact g1 q (by omega)
      · have hact : oAct A s p = none := by
          unfold oAct
          rw [if_pos z, ← j3, List.head?_drop, List.getElem?_eq_none (by omega)]
        rw [hact]
        have hM : M ||| oM none = M := by show M ||| 0 = M; simp
        rw [hM]
        refine ⟨([.ref 84, .int (nI (slM A M)), .int (nI (p + 1))], h1), ?_, h1, rfl, f1, fun q hq => ?_, fun q hq => g1 q (by omega)⟩
        · generalize slM A M = MM at *
          generalize slM A s.2.1 &&& slP A p = Y at *
          clear d1 g1 rs ro l hnn hst
          simp (disch := first | assumption | omega) [lstp, lc_O_nextOffers_1, lb_O_nextOffers_1, lu_O_nextOffers_1, j_meth, j_out, j_rok, j_pad, lg_sl, s_seq_w, isN_inl, isN_inr, s_if, jb, x_c, x_iloc, x_aloc, x_lloc, x_bin, x_un, o_add, o_sub, o_mul, o_and, o_or, o_xor, o_shl, o_shr, o_ushr, o_max, o_min, o_i2b, o_i2c, o_i2l, o_l2i, x_fld, j_fget, x_idx, j_aget, x_len, j_alen, x_ofb, x_ite, xs_nil, xs_cons, x_callv, x_calls, s_callv, s_calls, j_recv, j_ret, j_retv, b_cmp, b_and, b_or, b_not, b_ofi, b_ite, b_true, s_skip, s_set, j_ty, j_lset, j_kill, s_inc, s_fput, j_fput, s_fop, s_aput, j_aput, j_nar, s_aop, s_ret, s_retv, s_go, s_pop, x_linc, x_finc, Value.category, if_icmp.holds, List.flatMap_cons, List.flatMap_nil, List.length_cons, List.length_append, List.length_nil, List.set_cons_succ, List.set_cons_zero, List.getElem?_cons_succ, List.getElem?_cons_zero, List.replicate, ite_and', ite_or', ite_int', nI_leI, nI_ltI, nI_eq, nI_add, nI_1, pk_mul, nI_clamp, n_in', nI_pos', nI_pos, n_m1e, n_01, n_10, sT_1, sR_1_0, sR_1_1, sR_1_2, sR_1_3, sR_1_4, sR_1_5, sR_1_6, sR_1_7, sR_1_8, sR_1_9, sT_2, sT_3, sT_4, sT_5, sT_6, sT_7, sT_8, sT_9, sT_10, sT_11, sT_12, sT_13, sT_14, sR_2_1, sR_2_2, sR_2_3, sR_2_4, sR_2_5, sR_2_6, sR_2_7, sR_2_8, sR_2_9, sR_2_10, sR_2_11, sR_2_12, sT_15, sT_16, sT_17, sT_18, sT_19, sT_20, sT_21, sT_22, sT_23, sR_15_1, sR_15_2, sR_15_3, sR_15_4, sR_15_5, sR_15_6, sR_15_7, sR_15_8, sT_24, sT_25, sT_26, sT_27, sT_28, sT_29, sR_24_1, sR_24_2, sR_24_3, sR_24_4, sR_24_5, sT_71, sT_72, sR_71_0, sR_71_1, sR_71_2, sR_71_3, sR_71_4, sT_73, sT_74, sT_75, sR_73_0, sR_73_1, sR_73_2, sR_73_3, sR_73_4, sR_73_5, sT_84, sT_85, sT_86, sT_87, sR_84_0, sR_84_1, sR_84_2, sR_84_3, sR_84_4, sR_84_5, sT_88, sT_89, sR_88_0, sT_90, sT_91, sR_90_0, c01, hp, c81, s1, hX, hX0, z, j2, c86, zj]
        · by_cases e : q = p
          · subst e
            refine ⟨j, j1, j2, ?_⟩
            unfold oTl
            rw [if_pos z, j3]
            rw [← j3, List.tail_drop, List.drop_eq_nil_of_le (by omega), List.drop_eq_nil_of_le (by omega)]
          · exact d1 q (by omega)
    · have hact : oAct A s p = none := by unfold oAct; rw [if_neg z]
      rw [hact]
      have hM : M ||| oM none = M := by show M ||| 0 = M; simp
      rw [hM]
      refine ⟨([.ref 84, .int (nI (slM A M)), .int (nI (p + 1))], h1), ?_, h1, rfl, f1, fun q hq => ?_, fun q hq => g1 q (by omega)⟩
      · generalize slM A M = MM at *
        generalize slM A s.2.1 &&& slP A p = Y at *
        clear d1 g1 rs ro l hnn hst
        simp (disch := first | assumption | omega) [lstp, lc_O_nextOffers_1, lb_O_nextOffers_1, lu_O_nextOffers_1, j_meth, j_out, j_rok, j_pad, lg_sl, s_seq_w, isN_inl, isN_inr, s_if, jb, x_c, x_iloc, x_aloc, x_lloc, x_bin, x_un, o_add, o_sub, o_mul, o_and, o_or, o_xor, o_shl, o_shr, o_ushr, o_max, o_min, o_i2b, o_i2c, o_i2l, o_l2i, x_fld, j_fget, x_idx, j_aget, x_len, j_alen, x_ofb, x_ite, xs_nil, xs_cons, x_callv, x_calls, s_callv, s_calls, j_recv, j_ret, j_retv, b_cmp, b_and, b_or, b_not, b_ofi, b_ite, b_true, s_skip, s_set, j_ty, j_lset, j_kill, s_inc, s_fput, j_fput, s_fop, s_aput, j_aput, j_nar, s_aop, s_ret, s_retv, s_go, s_pop, x_linc, x_finc, Value.category, if_icmp.holds, List.flatMap_cons, List.flatMap_nil, List.length_cons, List.length_append, List.length_nil, List.set_cons_succ, List.set_cons_zero, List.getElem?_cons_succ, List.getElem?_cons_zero, List.replicate, ite_and', ite_or', ite_int', nI_leI, nI_ltI, nI_eq, nI_add, nI_1, pk_mul, nI_clamp, n_in', nI_pos', nI_pos, n_m1e, n_01, n_10, sT_1, sR_1_0, sR_1_1, sR_1_2, sR_1_3, sR_1_4, sR_1_5, sR_1_6, sR_1_7, sR_1_8, sR_1_9, sT_2, sT_3, sT_4, sT_5, sT_6, sT_7, sT_8, sT_9, sT_10, sT_11, sT_12, sT_13, sT_14, sR_2_1, sR_2_2, sR_2_3, sR_2_4, sR_2_5, sR_2_6, sR_2_7, sR_2_8, sR_2_9, sR_2_10, sR_2_11, sR_2_12, sT_15, sT_16, sT_17, sT_18, sT_19, sT_20, sT_21, sT_22, sT_23, sR_15_1, sR_15_2, sR_15_3, sR_15_4, sR_15_5, sR_15_6, sR_15_7, sR_15_8, sT_24, sT_25, sT_26, sT_27, sT_28, sT_29, sR_24_1, sR_24_2, sR_24_3, sR_24_4, sR_24_5, sT_71, sT_72, sR_71_0, sR_71_1, sR_71_2, sR_71_3, sR_71_4, sT_73, sT_74, sT_75, sR_73_0, sR_73_1, sR_73_2, sR_73_3, sR_73_4, sR_73_5, sT_84, sT_85, sT_86, sT_87, sR_84_0, sR_84_1, sR_84_2, sR_84_3, sR_84_4, sR_84_5, sT_88, sT_89, sR_88_0, sT_90, sT_91, sR_90_0, c01, hp, c81, s1, hX, hX0, z]
      · by_cases e : q = p
        · subst e
          refine ⟨j, j1, j2, ?_⟩
          unfold oTl
          rw [if_neg z]; exact j3
        · exact d1 q (by omega)
  · rintro st ⟨h1, rfl, f1, d1, g1⟩
    have hs1 := Fr_shape hs f1
    have c01 : hI h1 15 0 = nI (aNp A) := by rw [Fr_I f1 (by unfold W87; omega)]; exact c0
    refine ⟨_, ?_, h1, rfl, f1, d1⟩
    generalize slM A (nfo (fun p m => m ||| oM (oAct A s p)) (aNp A) 0) = R at *
    simp (disch := first | assumption | omega) [lstp, lc_O_nextOffers_1, lb_O_nextOffers_1, lu_O_nextOffers_1, j_meth, j_out, j_rok, j_pad, lg_sl, s_seq_w, isN_inl, isN_inr, s_if, jb, x_c, x_iloc, x_aloc, x_lloc, x_bin, x_un, o_add, o_sub, o_mul, o_and, o_or, o_xor, o_shl, o_shr, o_ushr, o_max, o_min, o_i2b, o_i2c, o_i2l, o_l2i, x_fld, j_fget, x_idx, j_aget, x_len, j_alen, x_ofb, x_ite, xs_nil, xs_cons, x_callv, x_calls, s_callv, s_calls, j_recv, j_ret, j_retv, b_cmp, b_and, b_or, b_not, b_ofi, b_ite, b_true, s_skip, s_set, j_ty, j_lset, j_kill, s_inc, s_fput, j_fput, s_fop, s_aput, j_aput, j_nar, s_aop, s_ret, s_retv, s_go, s_pop, x_linc, x_finc, Value.category, if_icmp.holds, List.flatMap_cons, List.flatMap_nil, List.length_cons, List.length_append, List.length_nil, List.set_cons_succ, List.set_cons_zero, List.getElem?_cons_succ, List.getElem?_cons_zero, List.replicate, ite_and', ite_or', ite_int', nI_leI, nI_ltI, nI_eq, nI_add, nI_1, pk_mul, nI_clamp, n_in', nI_pos', nI_pos, n_m1e, n_01, n_10, sT_1, sR_1_0, sR_1_1, sR_1_2, sR_1_3, sR_1_4, sR_1_5, sR_1_6, sR_1_7, sR_1_8, sR_1_9, sT_2, sT_3, sT_4, sT_5, sT_6, sT_7, sT_8, sT_9, sT_10, sT_11, sT_12, sT_13, sT_14, sR_2_1, sR_2_2, sR_2_3, sR_2_4, sR_2_5, sR_2_6, sR_2_7, sR_2_8, sR_2_9, sR_2_10, sR_2_11, sR_2_12, sT_15, sT_16, sT_17, sT_18, sT_19, sT_20, sT_21, sT_22, sT_23, sR_15_1, sR_15_2, sR_15_3, sR_15_4, sR_15_5, sR_15_6, sR_15_7, sR_15_8, sT_24, sT_25, sT_26, sT_27, sT_28, sT_29, sR_24_1, sR_24_2, sR_24_3, sR_24_4, sR_24_5, sT_71, sT_72, sR_71_0, sR_71_1, sR_71_2, sR_71_3, sR_71_4, sT_73, sT_74, sT_75, sR_73_0, sR_73_1, sR_73_2, sR_73_3, sR_73_4, sR_73_5, sT_84, sT_85, sT_86, sT_87, sR_84_0, sR_84_1, sR_84_2, sR_84_3, sR_84_4, sR_84_5, sT_88, sT_89, sR_88_0, sT_90, sT_91, sR_90_0, c01]
