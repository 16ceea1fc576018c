/-! ALLOWED, the loop over a part -/
theorem and_two_pow (W k : Nat) : W &&& 2 ^ k = (W.testBit k).toNat * 2 ^ k := by
  apply Nat.eq_of_testBit_eq
  intro j
  rw [Nat.testBit_and, Nat.testBit_two_pow]
  by_cases e : k = j
  · subst e
    cases h : W.testBit k
    · simp
    · simp
  · cases h : W.testBit k
    · simp [e]
    · simp [e, Nat.testBit_two_pow]
def rpP (A : AS) (f P i : Nat) : Bool := P.testBit i && (pplP A f P i).testBit (aPe A (bAt A f i))
theorem pplP_s (A : AS) (f P i : Nat) : pplP A f P (i + 1) = if P.testBit i then pplP A f P i ||| 2 ^ aPe A (bAt A f i) else pplP A f P i := rfl
theorem payP_s (A : AS) (f P i : Nat) : payP A f P (i + 1) = if P.testBit i then payP A f P i + aPa A (bAt A f i) else payP A f P i := rfl
theorem pplP_lt {A : AS} (w : WF A) {f : Nat} (P : Nat) : ∀ i, i ≤ nOf A f → pplP A f P i < 2 ^ aNp A := by
  intro i
  induction i with
  | zero => intro _; exact Nat.two_pow_pos _
  | succ i ih =>
    intro hi
    rw [pplP_s]
    have h1 := ih (by omega)
    split
    · have hb := (bAt_ok w (f := f) (i := i) (by omega)).1
      have l1 := (w.2.2.1.2.1 _ hb).1
      exact Nat.or_lt_two_pow h1 (Nat.pow_lt_pow_right (by decide) l1)
    · exact h1
theorem e_D_isAllowed_loop {A : AS} {h : jHp} (x : CX A h) {k a P lim : Nat} (hk : k < 4) (d : CD0 A k a h) (hP : P < 2 ^ 31) : ∃ L, (s_loop 1 2 lc_D_isAllowed_1 lb_D_isAllowed_1 lu_D_isAllowed_1 ([.ref (dA k), .int (nI P), .int (nI lim), .int (nI 0), .int (nI 0), .int (nI 0), .null, .null], h) = some (.inr (some (.int (nI 0))), (L, h)) ∧ (fst1 (rpP A k P) (nOf A k)).isNone = false) ∨ (s_loop 1 2 lc_D_isAllowed_1 lb_D_isAllowed_1 lu_D_isAllowed_1 ([.ref (dA k), .int (nI P), .int (nI lim), .int (nI 0), .int (nI 0), .int (nI 0), .null, .null], h) = some (.inl 0, ([.ref (dA k), .int (nI P), .int (nI lim), .int (nI (pplP A k P (nOf A k))), .int (nI (payP A k P (nOf A k)))] ++ L, h)) ∧ (fst1 (rpP A k P) (nOf A k)).isNone = true) := by
  have hs := x.1
  have w := x.2.1
  have cb := x.2.2.1
  have hn := w.1.1
  have h20 := w.2.2.1.1
  obtain ⟨t1, r1, r2, -⟩ := DSh_of hs hk
  have d0 := d.1
  have h8 := nOf_le w k
  have c10 : hI h 10 k = nI (nOf A k) := cb.2.2.1 k hk
  have eb := fun i (hi : i < nOf A k) => e_D_bondAt x hk d hi
  generalize dA k = D at *
  have step : ∀ i v6 v7, i < nOf A k → ∃ v6' v7', lstp 1 2 lc_D_isAllowed_1 lb_D_isAllowed_1 lu_D_isAllowed_1 ([.ref D, .int (nI P), .int (nI lim), .int (nI (pplP A k P i)), .int (nI (payP A k P i)), .int (nI i), v6, v7], h) = some (if rpP A k P i = true then .inr (.inr (some (.int (nI 0))), ([.ref D, .int (nI P), .int (nI lim), .int (nI (pplP A k P i)), .int (nI (payP A k P i)), .int (nI i), v6', v7'], h)) else .inl ([.ref D, .int (nI P), .int (nI lim), .int (nI (pplP A k P (i + 1))), .int (nI (payP A k P (i + 1))), .int (nI (i + 1)), v6', v7'], h)) := by
    intro i v6 v7 hi
    have e1 := eb i hi
    have hbt := n_bit (a := P) (k := i) (by omega) (by omega)
    have hb := (bAt_ok w hi).1
    obtain ⟨q1, -, q3, -⟩ := cb.2.1 _ hb
    have l1 := (w.2.2.1.2.1 _ hb).1
    have hW := pplP_lt w (f := k) P i (by omega)
    rw [pplP_s, payP_s]
    unfold rpP
    generalize bAt A k i = b at *
    generalize pplP A k P i = W at *
    generalize payP A k P i = Y at *
    have hW7 : W < 2 ^ 7 := Nat.lt_of_lt_of_le hW (Nat.pow_le_pow_right (by decide) hn)
    have hsh := n_shl 1 (k := aPe A b) (by omega)
    rw [Nat.one_mul] at hsh
    have hand : W &&& 2 ^ aPe A b = (W.testBit (aPe A b)).toNat * 2 ^ aPe A b := and_two_pow W (aPe A b)
    have h00 : (nI 0 = 0) = True := by decide
    have h10 : (nI 1 = 0) = False := by decide
    by_cases z : P.testBit i = true
    · rw [z] at hbt
      simp only [Bool.toNat_true] at hbt
      by_cases z2 : W.testBit (aPe A b) = true
      · have hne : (nI (2 ^ aPe A b) = 0) = False := by
          have h7 : 2 ^ aPe A b < 2 ^ 7 := Nat.pow_lt_pow_right (by decide) (by omega)
          have hp := Nat.two_pow_pos (aPe A b)
          exact eq_false fun e => by
            have := (n_eq0 (by omega)).mp e
            omega
        rw [z2] at hand
        simp only [Bool.toNat_true, Nat.one_mul] at hand
        refine ⟨.int (nI b), .int (nI (2 ^ aPe A b)), ?_⟩
        simp (disch := first | assumption | omega) [lstp, lc_D_isAllowed_1, lb_D_isAllowed_1, lu_D_isAllowed_1, j_meth, j_out, j_rok, j_pad, lg_sl, s_seq_w, isN_inl, isN_inr, s_if, jb, x_c, x_iloc, x_aloc, x_lloc, x_bin, x_un, o_add, o_sub, o_mul, o_and, o_or, o_xor, o_shl, o_shr, o_ushr, o_max, o_min, o_i2b, o_i2c, o_i2l, o_l2i, x_fld, j_fget, x_idx, j_aget, x_len, j_alen, x_ofb, x_ite, xs_nil, xs_cons, x_callv, x_calls, s_callv, s_calls, j_recv, j_ret, j_retv, b_cmp, b_and, b_or, b_not, b_ofi, b_ite, b_true, s_skip, s_set, j_ty, j_lset, j_kill, s_inc, s_fput, j_fput, s_fop, s_aput, j_aput, j_nar, s_aop, s_ret, s_retv, s_go, s_pop, x_linc, x_finc, Value.category, if_icmp.holds, List.flatMap_cons, List.flatMap_nil, List.length_cons, List.length_append, List.length_nil, List.set_cons_succ, List.set_cons_zero, List.getElem?_cons_succ, List.getElem?_cons_zero, List.replicate, ite_and', ite_or', ite_int', nI_leI, nI_ltI, nI_eq, nI_add, nI_1, pk_mul, nI_clamp, n_in', nI_pos', nI_pos, n_m1e, n_01, n_10, sT_1, sR_1_0, sR_1_1, sR_1_2, sR_1_3, sR_1_4, sR_1_5, sR_1_6, sR_1_7, sR_1_8, sR_1_9, sT_2, sT_3, sT_4, sT_5, sT_6, sT_7, sT_8, sT_9, sT_10, sT_11, sT_12, sT_13, sT_14, sR_2_1, sR_2_2, sR_2_3, sR_2_4, sR_2_5, sR_2_6, sR_2_7, sR_2_8, sR_2_9, sR_2_10, sR_2_11, sR_2_12, sT_15, sT_16, sT_17, sT_18, sT_19, sT_20, sT_21, sT_22, sT_23, sR_15_1, sR_15_2, sR_15_3, sR_15_4, sR_15_5, sR_15_6, sR_15_7, sR_15_8, sT_24, sT_25, sT_26, sT_27, sT_28, sT_29, sR_24_1, sR_24_2, sR_24_3, sR_24_4, sR_24_5, sT_71, sT_72, sR_71_0, sR_71_1, sR_71_2, sR_71_3, sR_71_4, sT_73, sT_74, sT_75, sR_73_0, sR_73_1, sR_73_2, sR_73_3, sR_73_4, sR_73_5, sT_84, sT_85, sT_86, sT_87, sR_84_0, sR_84_1, sR_84_2, sR_84_3, sR_84_4, sR_84_5, sT_88, sT_89, sR_88_0, sT_90, sT_91, sR_90_0, t1, r1, d0, c10, hi, hbt, h00, h10, z, e1, q1, hsh, n_and, hand, z2, hne]
      · have z2' : W.testBit (aPe A b) = false := by simpa using z2
        rw [z2'] at hand
        simp only [Bool.toNat_false, Nat.zero_mul] at hand
        refine ⟨.int (nI b), .int (nI (2 ^ aPe A b)), ?_⟩
        simp (disch := first | assumption | omega) [lstp, lc_D_isAllowed_1, lb_D_isAllowed_1, lu_D_isAllowed_1, j_meth, j_out, j_rok, j_pad, lg_sl, s_seq_w, isN_inl, isN_inr, s_if, jb, x_c, x_iloc, x_aloc, x_lloc, x_bin, x_un, o_add, o_sub, o_mul, o_and, o_or, o_xor, o_shl, o_shr, o_ushr, o_max, o_min, o_i2b, o_i2c, o_i2l, o_l2i, x_fld, j_fget, x_idx, j_aget, x_len, j_alen, x_ofb, x_ite, xs_nil, xs_cons, x_callv, x_calls, s_callv, s_calls, j_recv, j_ret, j_retv, b_cmp, b_and, b_or, b_not, b_ofi, b_ite, b_true, s_skip, s_set, j_ty, j_lset, j_kill, s_inc, s_fput, j_fput, s_fop, s_aput, j_aput, j_nar, s_aop, s_ret, s_retv, s_go, s_pop, x_linc, x_finc, Value.category, if_icmp.holds, List.flatMap_cons, List.flatMap_nil, List.length_cons, List.length_append, List.length_nil, List.set_cons_succ, List.set_cons_zero, List.getElem?_cons_succ, List.getElem?_cons_zero, List.replicate, ite_and', ite_or', ite_int', nI_leI, nI_ltI, nI_eq, nI_add, nI_1, pk_mul, nI_clamp, n_in', nI_pos', nI_pos, n_m1e, n_01, n_10, sT_1, sR_1_0, sR_1_1, sR_1_2, sR_1_3, sR_1_4, sR_1_5, sR_1_6, sR_1_7, sR_1_8, sR_1_9, sT_2, sT_3, sT_4, sT_5, sT_6, sT_7, sT_8, sT_9, sT_10, sT_11, sT_12, sT_13, sT_14, sR_2_1, sR_2_2, sR_2_3, sR_2_4, sR_2_5, sR_2_6, sR_2_7, sR_2_8, sR_2_9, sR_2_10, sR_2_11, sR_2_12, sT_15, sT_16, sT_17, sT_18, sT_19, sT_20, sT_21, sT_22, sT_23, sR_15_1, sR_15_2, sR_15_3, sR_15_4, sR_15_5, sR_15_6, sR_15_7, sR_15_8, sT_24, sT_25, sT_26, sT_27, sT_28, sT_29, sR_24_1, sR_24_2, sR_24_3, sR_24_4, sR_24_5, sT_71, sT_72, sR_71_0, sR_71_1, sR_71_2, sR_71_3, sR_71_4, sT_73, sT_74, sT_75, sR_73_0, sR_73_1, sR_73_2, sR_73_3, sR_73_4, sR_73_5, sT_84, sT_85, sT_86, sT_87, sR_84_0, sR_84_1, sR_84_2, sR_84_3, sR_84_4, sR_84_5, sT_88, sT_89, sR_88_0, sT_90, sT_91, sR_90_0, t1, r1, d0, c10, hi, hbt, h00, h10, z, e1, q1, q3, hsh, n_and, hand, z2', n_or]
    · have z' : P.testBit i = false := by simpa using z
      rw [z'] at hbt
      simp only [Bool.toNat_false] at hbt
      refine ⟨v6, v7, ?_⟩
      simp (disch := first | assumption | omega) [lstp, lc_D_isAllowed_1, lb_D_isAllowed_1, lu_D_isAllowed_1, j_meth, j_out, j_rok, j_pad, lg_sl, s_seq_w, isN_inl, isN_inr, s_if, jb, x_c, x_iloc, x_aloc, x_lloc, x_bin, x_un, o_add, o_sub, o_mul, o_and, o_or, o_xor, o_shl, o_shr, o_ushr, o_max, o_min, o_i2b, o_i2c, o_i2l, o_l2i, x_fld, j_fget, x_idx, j_aget, x_len, j_alen, x_ofb, x_ite, xs_nil, xs_cons, x_callv, x_calls, s_callv, s_calls, j_recv, j_ret, j_retv, b_cmp, b_and, b_or, b_not, b_ofi, b_ite, b_true, s_skip, s_set, j_ty, j_lset, j_kill, s_inc, s_fput, j_fput, s_fop, s_aput, j_aput, j_nar, s_aop, s_ret, s_retv, s_go, s_pop, x_linc, x_finc, Value.category, if_icmp.holds, List.flatMap_cons, List.flatMap_nil, List.length_cons, List.length_append, List.length_nil, List.set_cons_succ, List.set_cons_zero, List.getElem?_cons_succ, List.getElem?_cons_zero, List.replicate, ite_and', ite_or', ite_int', nI_leI, nI_ltI, nI_eq, nI_add, nI_1, pk_mul, nI_clamp, n_in', nI_pos', nI_pos, n_m1e, n_01, n_10, sT_1, sR_1_0, sR_1_1, sR_1_2, sR_1_3, sR_1_4, sR_1_5, sR_1_6, sR_1_7, sR_1_8, sR_1_9, sT_2, sT_3, sT_4, sT_5, sT_6, sT_7, sT_8, sT_9, sT_10, sT_11, sT_12, sT_13, sT_14, sR_2_1, sR_2_2, sR_2_3, sR_2_4, sR_2_5, sR_2_6, sR_2_7, sR_2_8, sR_2_9, sR_2_10, sR_2_11, sR_2_12, sT_15, sT_16, sT_17, sT_18, sT_19, sT_20, sT_21, sT_22, sT_23, sR_15_1, sR_15_2, sR_15_3, sR_15_4, sR_15_5, sR_15_6, sR_15_7, sR_15_8, sT_24, sT_25, sT_26, sT_27, sT_28, sT_29, sR_24_1, sR_24_2, sR_24_3, sR_24_4, sR_24_5, sT_71, sT_72, sR_71_0, sR_71_1, sR_71_2, sR_71_3, sR_71_4, sT_73, sT_74, sT_75, sR_73_0, sR_73_1, sR_73_2, sR_73_3, sR_73_4, sR_73_5, sT_84, sT_85, sT_86, sT_87, sR_84_0, sR_84_1, sR_84_2, sR_84_3, sR_84_4, sR_84_5, sT_88, sT_89, sR_88_0, sT_90, sT_91, sR_90_0, t1, r1, d0, c10, hi, hbt, h00, h10, z']
  generalize hrp : rpP A k P = pp at *
  have hL := loop_wp (lb := 1) (lc := 2) (c := lc_D_isAllowed_1) (b := lb_D_isAllowed_1) (u := lu_D_isAllowed_1) (nOf A k)
    (fun i st => ∃ v6 v7, st = ([.ref D, .int (nI P), .int (nI lim), .int (nI (pplP A k P i)), .int (nI (payP A k P i)), .int (nI i), v6, v7], h) ∧ ∀ m, m < i → pp m = false)
    (fun r => ∃ L, (r = (.inr (some (.int (nI 0))), (L, h)) ∧ (fst1 pp (nOf A k)).isNone = false) ∨ (r = (.inl 0, ([.ref D, .int (nI P), .int (nI lim), .int (nI (pplP A k P (nOf A k))), .int (nI (payP A k P (nOf A k)))] ++ L, h)) ∧ (fst1 pp (nOf A k)).isNone = true))
    ?_ ?_ ([.ref D, .int (nI P), .int (nI lim), .int (nI 0), .int (nI 0), .int (nI 0), .null, .null], h) ⟨_, _, rfl, fun m hm => by cases hm⟩
  · obtain ⟨r, e, L, ⟨rfl, hz⟩ | ⟨rfl, hz⟩⟩ := hL
    · exact ⟨L, Or.inl ⟨e, hz⟩⟩
    · exact ⟨L, Or.inr ⟨e, hz⟩⟩
  · rintro i st hi ⟨v6, v7, rfl, hall⟩
    obtain ⟨u6, u7, st1⟩ := step i v6 v7 hi
    by_cases z : pp i = true
    · right
      rw [if_pos z] at st1
      exact ⟨_, st1, _, Or.inl ⟨rfl, fst1_isS hi z hall⟩⟩
    · left
      rw [if_neg z] at st1
      refine ⟨_, st1, _, _, rfl, fun m hm => ?_⟩
      by_cases e : m = i
      · rw [e]; simpa using z
      · exact hall m (by omega)
  · rintro st ⟨v6, v7, rfl, hall⟩
    refine ⟨_, ?_, [.int (nI (nOf A k)), v6, v7], Or.inr ⟨rfl, fst1_isN hall⟩⟩
    simp (disch := first | assumption | omega) [lstp, lc_D_isAllowed_1, lb_D_isAllowed_1, lu_D_isAllowed_1, j_meth, j_out, j_rok, j_pad, lg_sl, s_seq_w, isN_inl, isN_inr, s_if, jb, x_c, x_iloc, x_aloc, x_lloc, x_bin, x_un, o_add, o_sub, o_mul, o_and, o_or, o_xor, o_shl, o_shr, o_ushr, o_max, o_min, o_i2b, o_i2c, o_i2l, o_l2i, x_fld, j_fget, x_idx, j_aget, x_len, j_alen, x_ofb, x_ite, xs_nil, xs_cons, x_callv, x_calls, s_callv, s_calls, j_recv, j_ret, j_retv, b_cmp, b_and, b_or, b_not, b_ofi, b_ite, b_true, s_skip, s_set, j_ty, j_lset, j_kill, s_inc, s_fput, j_fput, s_fop, s_aput, j_aput, j_nar, s_aop, s_ret, s_retv, s_go, s_pop, x_linc, x_finc, Value.category, if_icmp.holds, List.flatMap_cons, List.flatMap_nil, List.length_cons, List.length_append, List.length_nil, List.set_cons_succ, List.set_cons_zero, List.getElem?_cons_succ, List.getElem?_cons_zero, List.replicate, ite_and', ite_or', ite_int', nI_leI, nI_ltI, nI_eq, nI_add, nI_1, pk_mul, nI_clamp, n_in', nI_pos', nI_pos, n_m1e, n_01, n_10, sT_1, sR_1_0, sR_1_1, sR_1_2, sR_1_3, sR_1_4, sR_1_5, sR_1_6, sR_1_7, sR_1_8, sR_1_9, sT_2, sT_3, sT_4, sT_5, sT_6, sT_7, sT_8, sT_9, sT_10, sT_11, sT_12, sT_13, sT_14, sR_2_1, sR_2_2, sR_2_3, sR_2_4, sR_2_5, sR_2_6, sR_2_7, sR_2_8, sR_2_9, sR_2_10, sR_2_11, sR_2_12, sT_15, sT_16, sT_17, sT_18, sT_19, sT_20, sT_21, sT_22, sT_23, sR_15_1, sR_15_2, sR_15_3, sR_15_4, sR_15_5, sR_15_6, sR_15_7, sR_15_8, sT_24, sT_25, sT_26, sT_27, sT_28, sT_29, sR_24_1, sR_24_2, sR_24_3, sR_24_4, sR_24_5, sT_71, sT_72, sR_71_0, sR_71_1, sR_71_2, sR_71_3, sR_71_4, sT_73, sT_74, sT_75, sR_73_0, sR_73_1, sR_73_2, sR_73_3, sR_73_4, sR_73_5, sT_84, sT_85, sT_86, sT_87, sR_84_0, sR_84_1, sR_84_2, sR_84_3, sR_84_4, sR_84_5, sT_88, sT_89, sR_88_0, sT_90, sT_91, sR_90_0, t1, r1, d0, c10]
