/-! MATCHINGS: what the tables say -/
def MV (A : AS) (mv : Nat → Nat) (h : jHp) : Prop := MK A h ∧ ∀ o, o < 4 → mv o < 4 ∧ hI h 72 o = nI (mv o) ∧ CTl A o (mv o) h
theorem e_Ma_entry {A : AS} {mv : Nat → Nat} {h : jHp} (x : MV A mv h) {o P : Nat} (ho : o < 4) (hP : P < 2 ^ nOf A o) : f_Ma_entry [.ref 71, .int (nI o), .int (nI P)] h = some (some (.int (nI (tE A o (mv o) P))), h) := by
  have hs := x.1.1.1
  have w := x.1.1.2.1
  obtain ⟨m4, c72, ct⟩ := x.2 o ho
  have c := ct P hP
  have h8 := nOf_le w o
  have hp8 : 2 ^ nOf A o ≤ 256 := Nat.pow_le_pow_right (n := 2) (by decide) h8
  obtain ⟨t1, -, -, r4, -, -, t7, -, -, r30⟩ := DSh_of hs ho
  have t30 := sT_30 hs
  have n7 : dA o + 7 ≠ 0 := by omega
  have n0 : dA o ≠ 0 := by unfold dA; omega
  have hc : mv o * 256 = 256 * mv o := Nat.mul_comm _ _
  generalize dA o + 7 = D7 at *
  generalize dA o = D at *
  simp (disch := first | assumption | omega) [f_Ma_entry, body_Ma_entry, j_meth, j_out, j_rok, j_pad, lg_sl, s_seq_w, isN_inl, isN_inr, s_if, jb, x_c, x_iloc, x_aloc, x_lloc, x_bin, x_un, o_add, o_sub, o_mul, o_and, o_or, o_xor, o_shl, o_shr, o_ushr, o_max, o_min, o_i2b, o_i2c, o_i2l, o_l2i, x_fld, j_fget, x_idx, j_aget, x_len, j_alen, x_ofb, x_ite, xs_nil, xs_cons, x_callv, x_calls, s_callv, s_calls, j_recv, j_ret, j_retv, b_cmp, b_and, b_or, b_not, b_ofi, b_ite, b_true, s_skip, s_set, j_ty, j_lset, j_kill, s_inc, s_fput, j_fput, s_fop, s_aput, j_aput, j_nar, s_aop, s_ret, s_retv, s_go, s_pop, x_linc, x_finc, Value.category, if_icmp.holds, List.flatMap_cons, List.flatMap_nil, List.length_cons, List.length_append, List.length_nil, List.set_cons_succ, List.set_cons_zero, List.getElem?_cons_succ, List.getElem?_cons_zero, List.replicate, ite_and', ite_or', ite_int', nI_leI, nI_ltI, nI_eq, nI_add, nI_1, pk_mul, nI_clamp, n_in', nI_pos', nI_pos, n_m1e, n_01, n_10, sT_1, sR_1_0, sR_1_1, sR_1_2, sR_1_3, sR_1_4, sR_1_5, sR_1_6, sR_1_7, sR_1_8, sR_1_9, sT_2, sT_3, sT_4, sT_5, sT_6, sT_7, sT_8, sT_9, sT_10, sT_11, sT_12, sT_13, sT_14, sR_2_1, sR_2_2, sR_2_3, sR_2_4, sR_2_5, sR_2_6, sR_2_7, sR_2_8, sR_2_9, sR_2_10, sR_2_11, sR_2_12, sT_15, sT_16, sT_17, sT_18, sT_19, sT_20, sT_21, sT_22, sT_23, sR_15_1, sR_15_2, sR_15_3, sR_15_4, sR_15_5, sR_15_6, sR_15_7, sR_15_8, sT_24, sT_25, sT_26, sT_27, sT_28, sT_29, sR_24_1, sR_24_2, sR_24_3, sR_24_4, sR_24_5, sT_71, sT_72, sR_71_0, sR_71_1, sR_71_2, sR_71_3, sR_71_4, sT_73, sT_74, sT_75, sR_73_0, sR_73_1, sR_73_2, sR_73_3, sR_73_4, sR_73_5, sT_84, sT_85, sT_86, sT_87, sR_84_0, sR_84_1, sR_84_2, sR_84_3, sR_84_4, sR_84_5, sT_88, sT_89, sR_88_0, sT_90, sT_91, sR_90_0, t30, r30, n0, t1, r4, n7, t7, c72, hc, c]
theorem e_Ma_entryT {A : AS} {mv : Nat → Nat} {h : jHp} (x : MV A mv h) {o S : Nat} (ho : o < 4) : f_Ma_entry [.ref 71, .int (nI o), .int (nI (prt o (slM A S)))] h = some (some (.int (nI (tE A o (mv o) (prt o (slM A S))))), h) := e_Ma_entry x ho (prt_slM_lt x.1.1.2.1 o S)
theorem fst1_ext {p : Nat → Bool} {n m : Nat} (h : n ≤ m) (hp : ∀ i, n ≤ i → i < m → p i = false) : fst1 p m = fst1 p n := by
  cases hf : fst1 p n with
  | none =>
    have h0 := fst1_none hf
    exact fst1_no fun i hi => by
      cases Nat.lt_or_ge i n with
      | inl q => exact h0 i q
      | inr q => exact hp i q hi
  | some j =>
    obtain ⟨h1, h2, h3⟩ := fst1_some hf
    exact fst1_of (by omega) h2 h3
theorem sOff_hi {A : AS} (w : WF A) {o : Nat} (h : aNo A ≤ o) : sOff A o = 0 := by
  apply Nat.eq_of_testBit_eq
  intro b
  unfold sOff
  rw [sOff_bit, Nat.zero_testBit]
  by_cases hb : b < aNb A
  · have := (w.2.2.1.2.1 b hb).2.1
    have hne : ¬ aOf A b = o := by omega
    simp [hne]
  · simp [hb]
theorem sTk_hi {A : AS} (w : WF A) {o : Nat} (h : aNo A ≤ o) (S : Nat) : sTk A o S = 0 := by
  obtain ⟨a1, -⟩ := take_spec w o S
  apply Nat.eq_of_testBit_eq
  intro b
  rw [Nat.zero_testBit]
  cases q : (sTk A o S).testBit b with
  | false => rfl
  | true =>
    obtain ⟨b1, b2⟩ := a1 b q
    have := (w.2.2.1.2.1 b b1).2.1
    omega
theorem n_neT {A : AS} {o l P Q : Nat} (hQ : Q < 256) : (nI (tP A o l P) = nI Q) = (tP A o l P = Q) := propext (n_eq (by have := tP_256 A o l P; omega) (by omega))
/-- whether each OFFICE takes all that it has -/
theorem e_Ma_isTakenWhole {A : AS} {mv : Nat → Nat} {h : jHp} (x : MV A mv h) (S : Nat) : f_Ma_isTakenWhole [.ref 71, .int (nI (slM A S))] h = some (some (.int (if (sF3 (aMv A mv) S).isNone then 1 else 0)), h) := by
  have hs := x.1.1.1
  have w := x.1.1.2.1
  have hno := w.2.1
  have hX := slM_lt w S
  have hsp : sF3 (aMv A mv) S = fst1 (fun o => tP A o (mv o) (prt o (slM A S)) != prt o (slM A S)) 4 := by
    unfold sF3
    have hn : aNo (aMv A mv) = aNo A := rfl
    have hof : ∀ f, sOff (aMv A mv) f = sOff A f := fun f => rfl
    rw [hn]
    have hpe : ∀ o, (tP A o (mv o) (prt o (slM A S)) != prt o (slM A S)) = (sTk (aMv A mv) o (S &&& sOff (aMv A mv) o) != S &&& sOff (aMv A mv) o) := fun o => by
      rw [sTk_off (WF_mv w mv), hof, Bool.eq_iff_iff, bne_iff_ne, bne_iff_ne, Ne, Ne, tk_iff w mv]
    rw [fst1_congr (p := fun o => tP A o (mv o) (prt o (slM A S)) != prt o (slM A S)) (q := fun f => sTk (aMv A mv) f (S &&& sOff (aMv A mv) f) != S &&& sOff (aMv A mv) f) fun o _ => hpe o]
    refine (fst1_ext hno fun i h1 h2 => ?_).symm
    rw [sTk_hi (WF_mv w mv) h1, hof, sOff_hi w h1, Nat.and_zero]
    rfl
  rw [hsp]
  have step : ∀ o, o < 4 → lstp 1 2 lc_Ma_isTakenWhole_1 lb_Ma_isTakenWhole_1 lu_Ma_isTakenWhole_1 ((fun o => (([.ref 71, .int (nI (slM A S)), .int (nI o), if o = 0 then .null else .int (nI (prt (o - 1) (slM A S)))], h) : jS)) o) = some (if (tP A o (mv o) (prt o (slM A S)) != prt o (slM A S)) = true then .inr (.inr (some (.int (nI 0))), ([.ref 71, .int (nI (slM A S)), .int (nI o), .int (nI (prt o (slM A S)))], h)) else .inl ((fun o => (([.ref 71, .int (nI (slM A S)), .int (nI o), if o = 0 then .null else .int (nI (prt (o - 1) (slM A S)))], h) : jS)) (o + 1))) := by
    intro o ho
    have ep := e_B_partOf (h := h) ho hX
    have ee := e_Ma_entryT x (S := S) ho
    have hE : nI (tE A o (mv o) (prt o (slM A S))) &&& nI 255 = nI (tP A o (mv o) (prt o (slM A S))) := by rw [n_and, tE_and]
    have hne := n_neT (A := A) (o := o) (l := mv o) (P := prt o (slM A S)) (prt_lt o (slM A S))
    have hi1 : (if o + 1 = 0 then Value.null else .int (nI (prt (o + 1 - 1) (slM A S)))) = .int (nI (prt o (slM A S))) := by rw [if_neg (by omega)]; rfl
    simp only [hi1]
    generalize (if o = 0 then Value.null else .int (nI (prt (o - 1) (slM A S)))) = v at *
    generalize tE A o (mv o) (prt o (slM A S)) = E at *
    generalize tP A o (mv o) (prt o (slM A S)) = T at *
    generalize prt o (slM A S) = Q at *
    by_cases z : T = Q
    · simp (disch := first | assumption | omega) [lstp, lc_Ma_isTakenWhole_1, lb_Ma_isTakenWhole_1, lu_Ma_isTakenWhole_1, j_meth, j_out, j_rok, j_pad, lg_sl, s_seq_w, isN_inl, isN_inr, s_if, jb, x_c, x_iloc, x_aloc, x_lloc, x_bin, x_un, o_add, o_sub, o_mul, o_and, o_or, o_xor, o_shl, o_shr, o_ushr, o_max, o_min, o_i2b, o_i2c, o_i2l, o_l2i, x_fld, j_fget, x_idx, j_aget, x_len, j_alen, x_ofb, x_ite, xs_nil, xs_cons, x_callv, x_calls, s_callv, s_calls, j_recv, j_ret, j_retv, b_cmp, b_and, b_or, b_not, b_ofi, b_ite, b_true, s_skip, s_set, j_ty, j_lset, j_kill, s_inc, s_fput, j_fput, s_fop, s_aput, j_aput, j_nar, s_aop, s_ret, s_retv, s_go, s_pop, x_linc, x_finc, Value.category, if_icmp.holds, List.flatMap_cons, List.flatMap_nil, List.length_cons, List.length_append, List.length_nil, List.set_cons_succ, List.set_cons_zero, List.getElem?_cons_succ, List.getElem?_cons_zero, List.replicate, ite_and', ite_or', ite_int', nI_leI, nI_ltI, nI_eq, nI_add, nI_1, pk_mul, nI_clamp, n_in', nI_pos', nI_pos, n_m1e, n_01, n_10, sT_1, sR_1_0, sR_1_1, sR_1_2, sR_1_3, sR_1_4, sR_1_5, sR_1_6, sR_1_7, sR_1_8, sR_1_9, sT_2, sT_3, sT_4, sT_5, sT_6, sT_7, sT_8, sT_9, sT_10, sT_11, sT_12, sT_13, sT_14, sR_2_1, sR_2_2, sR_2_3, sR_2_4, sR_2_5, sR_2_6, sR_2_7, sR_2_8, sR_2_9, sR_2_10, sR_2_11, sR_2_12, sT_15, sT_16, sT_17, sT_18, sT_19, sT_20, sT_21, sT_22, sT_23, sR_15_1, sR_15_2, sR_15_3, sR_15_4, sR_15_5, sR_15_6, sR_15_7, sR_15_8, sT_24, sT_25, sT_26, sT_27, sT_28, sT_29, sR_24_1, sR_24_2, sR_24_3, sR_24_4, sR_24_5, sT_71, sT_72, sR_71_0, sR_71_1, sR_71_2, sR_71_3, sR_71_4, sT_73, sT_74, sT_75, sR_73_0, sR_73_1, sR_73_2, sR_73_3, sR_73_4, sR_73_5, sT_84, sT_85, sT_86, sT_87, sR_84_0, sR_84_1, sR_84_2, sR_84_3, sR_84_4, sR_84_5, sT_88, sT_89, sR_88_0, sT_90, sT_91, sR_90_0, ho, ep, ee, hE, hne, z]
    · simp (disch := first | assumption | omega) [lstp, lc_Ma_isTakenWhole_1, lb_Ma_isTakenWhole_1, lu_Ma_isTakenWhole_1, j_meth, j_out, j_rok, j_pad, lg_sl, s_seq_w, isN_inl, isN_inr, s_if, jb, x_c, x_iloc, x_aloc, x_lloc, x_bin, x_un, o_add, o_sub, o_mul, o_and, o_or, o_xor, o_shl, o_shr, o_ushr, o_max, o_min, o_i2b, o_i2c, o_i2l, o_l2i, x_fld, j_fget, x_idx, j_aget, x_len, j_alen, x_ofb, x_ite, xs_nil, xs_cons, x_callv, x_calls, s_callv, s_calls, j_recv, j_ret, j_retv, b_cmp, b_and, b_or, b_not, b_ofi, b_ite, b_true, s_skip, s_set, j_ty, j_lset, j_kill, s_inc, s_fput, j_fput, s_fop, s_aput, j_aput, j_nar, s_aop, s_ret, s_retv, s_go, s_pop, x_linc, x_finc, Value.category, if_icmp.holds, List.flatMap_cons, List.flatMap_nil, List.length_cons, List.length_append, List.length_nil, List.set_cons_succ, List.set_cons_zero, List.getElem?_cons_succ, List.getElem?_cons_zero, List.replicate, ite_and', ite_or', ite_int', nI_leI, nI_ltI, nI_eq, nI_add, nI_1, pk_mul, nI_clamp, n_in', nI_pos', nI_pos, n_m1e, n_01, n_10, sT_1, sR_1_0, sR_1_1, sR_1_2, sR_1_3, sR_1_4, sR_1_5, sR_1_6, sR_1_7, sR_1_8, sR_1_9, sT_2, sT_3, sT_4, sT_5, sT_6, sT_7, sT_8, sT_9, sT_10, sT_11, sT_12, sT_13, sT_14, sR_2_1, sR_2_2, sR_2_3, sR_2_4, sR_2_5, sR_2_6, sR_2_7, sR_2_8, sR_2_9, sR_2_10, sR_2_11, sR_2_12, sT_15, sT_16, sT_17, sT_18, sT_19, sT_20, sT_21, sT_22, sT_23, sR_15_1, sR_15_2, sR_15_3, sR_15_4, sR_15_5, sR_15_6, sR_15_7, sR_15_8, sT_24, sT_25, sT_26, sT_27, sT_28, sT_29, sR_24_1, sR_24_2, sR_24_3, sR_24_4, sR_24_5, sT_71, sT_72, sR_71_0, sR_71_1, sR_71_2, sR_71_3, sR_71_4, sT_73, sT_74, sT_75, sR_73_0, sR_73_1, sR_73_2, sR_73_3, sR_73_4, sR_73_5, sT_84, sT_85, sT_86, sT_87, sR_84_0, sR_84_1, sR_84_2, sR_84_3, sR_84_4, sR_84_5, sT_88, sT_89, sR_88_0, sT_90, sT_91, sR_90_0, ho, ep, ee, hE, hne, z]
  have hL := loop_1s (lb := 1) (lc := 2) (c := lc_Ma_isTakenWhole_1) (b := lb_Ma_isTakenWhole_1) (u := lu_Ma_isTakenWhole_1) 4 (fun o => (([.ref 71, .int (nI (slM A S)), .int (nI o), if o = 0 then .null else .int (nI (prt (o - 1) (slM A S)))], h) : jS)) (fun o => tP A o (mv o) (prt o (slM A S)) != prt o (slM A S)) (fun o => (.inr (some (.int (nI 0))), ([.ref 71, .int (nI (slM A S)), .int (nI o), .int (nI (prt o (slM A S)))], h))) step
    (by simp (disch := first | assumption | omega) [lstp, lc_Ma_isTakenWhole_1, lb_Ma_isTakenWhole_1, lu_Ma_isTakenWhole_1, j_meth, j_out, j_rok, j_pad, lg_sl, s_seq_w, isN_inl, isN_inr, s_if, jb, x_c, x_iloc, x_aloc, x_lloc, x_bin, x_un, o_add, o_sub, o_mul, o_and, o_or, o_xor, o_shl, o_shr, o_ushr, o_max, o_min, o_i2b, o_i2c, o_i2l, o_l2i, x_fld, j_fget, x_idx, j_aget, x_len, j_alen, x_ofb, x_ite, xs_nil, xs_cons, x_callv, x_calls, s_callv, s_calls, j_recv, j_ret, j_retv, b_cmp, b_and, b_or, b_not, b_ofi, b_ite, b_true, s_skip, s_set, j_ty, j_lset, j_kill, s_inc, s_fput, j_fput, s_fop, s_aput, j_aput, j_nar, s_aop, s_ret, s_retv, s_go, s_pop, x_linc, x_finc, Value.category, if_icmp.holds, List.flatMap_cons, List.flatMap_nil, List.length_cons, List.length_append, List.length_nil, List.set_cons_succ, List.set_cons_zero, List.getElem?_cons_succ, List.getElem?_cons_zero, List.replicate, ite_and', ite_or', ite_int', nI_leI, nI_ltI, nI_eq, nI_add, nI_1, pk_mul, nI_clamp, n_in', nI_pos', nI_pos, n_m1e, n_01, n_10, sT_1, sR_1_0, sR_1_1, sR_1_2, sR_1_3, sR_1_4, sR_1_5, sR_1_6, sR_1_7, sR_1_8, sR_1_9, sT_2, sT_3, sT_4, sT_5, sT_6, sT_7, sT_8, sT_9, sT_10, sT_11, sT_12, sT_13, sT_14, sR_2_1, sR_2_2, sR_2_3, sR_2_4, sR_2_5, sR_2_6, sR_2_7, sR_2_8, sR_2_9, sR_2_10, sR_2_11, sR_2_12, sT_15, sT_16, sT_17, sT_18, sT_19, sT_20, sT_21, sT_22, sT_23, sR_15_1, sR_15_2, sR_15_3, sR_15_4, sR_15_5, sR_15_6, sR_15_7, sR_15_8, sT_24, sT_25, sT_26, sT_27, sT_28, sT_29, sR_24_1, sR_24_2, sR_24_3, sR_24_4, sR_24_5, sT_71, sT_72, sR_71_0, sR_71_1, sR_71_2, sR_71_3, sR_71_4, sT_73, sT_74, sT_75, sR_73_0, sR_73_1, sR_73_2, sR_73_3, sR_73_4, sR_73_5, sT_84, sT_85, sT_86, sT_87, sR_84_0, sR_84_1, sR_84_2, sR_84_3, sR_84_4, sR_84_5, sT_88, sT_89, sR_88_0, sT_90, sT_91, sR_90_0])
  cases hf : fst1 (fun o => tP A o (mv o) (prt o (slM A S)) != prt o (slM A S)) 4 with
  | none =>
    rw [hf] at hL
    simp only [nI_0, if_true] at hL
    simp (disch := first | assumption | omega) [f_Ma_isTakenWhole, body_Ma_isTakenWhole, j_meth, j_out, j_rok, j_pad, lg_sl, s_seq_w, isN_inl, isN_inr, s_if, jb, x_c, x_iloc, x_aloc, x_lloc, x_bin, x_un, o_add, o_sub, o_mul, o_and, o_or, o_xor, o_shl, o_shr, o_ushr, o_max, o_min, o_i2b, o_i2c, o_i2l, o_l2i, x_fld, j_fget, x_idx, j_aget, x_len, j_alen, x_ofb, x_ite, xs_nil, xs_cons, x_callv, x_calls, s_callv, s_calls, j_recv, j_ret, j_retv, b_cmp, b_and, b_or, b_not, b_ofi, b_ite, b_true, s_skip, s_set, j_ty, j_lset, j_kill, s_inc, s_fput, j_fput, s_fop, s_aput, j_aput, j_nar, s_aop, s_ret, s_retv, s_go, s_pop, x_linc, x_finc, Value.category, if_icmp.holds, List.flatMap_cons, List.flatMap_nil, List.length_cons, List.length_append, List.length_nil, List.set_cons_succ, List.set_cons_zero, List.getElem?_cons_succ, List.getElem?_cons_zero, List.replicate, ite_and', ite_or', ite_int', nI_leI, nI_ltI, nI_eq, nI_add, nI_1, pk_mul, nI_clamp, n_in', nI_pos', nI_pos, n_m1e, n_01, n_10, sT_1, sR_1_0, sR_1_1, sR_1_2, sR_1_3, sR_1_4, sR_1_5, sR_1_6, sR_1_7, sR_1_8, sR_1_9, sT_2, sT_3, sT_4, sT_5, sT_6, sT_7, sT_8, sT_9, sT_10, sT_11, sT_12, sT_13, sT_14, sR_2_1, sR_2_2, sR_2_3, sR_2_4, sR_2_5, sR_2_6, sR_2_7, sR_2_8, sR_2_9, sR_2_10, sR_2_11, sR_2_12, sT_15, sT_16, sT_17, sT_18, sT_19, sT_20, sT_21, sT_22, sT_23, sR_15_1, sR_15_2, sR_15_3, sR_15_4, sR_15_5, sR_15_6, sR_15_7, sR_15_8, sT_24, sT_25, sT_26, sT_27, sT_28, sT_29, sR_24_1, sR_24_2, sR_24_3, sR_24_4, sR_24_5, sT_71, sT_72, sR_71_0, sR_71_1, sR_71_2, sR_71_3, sR_71_4, sT_73, sT_74, sT_75, sR_73_0, sR_73_1, sR_73_2, sR_73_3, sR_73_4, sR_73_5, sT_84, sT_85, sT_86, sT_87, sR_84_0, sR_84_1, sR_84_2, sR_84_3, sR_84_4, sR_84_5, sT_88, sT_89, sR_88_0, sT_90, sT_91, sR_90_0, nI_0, hL, n_e1]
  | some i =>
    rw [hf] at hL
    simp only [nI_0, if_true] at hL
    simp (disch := first | assumption | omega) [f_Ma_isTakenWhole, body_Ma_isTakenWhole, j_meth, j_out, j_rok, j_pad, lg_sl, s_seq_w, isN_inl, isN_inr, s_if, jb, x_c, x_iloc, x_aloc, x_lloc, x_bin, x_un, o_add, o_sub, o_mul, o_and, o_or, o_xor, o_shl, o_shr, o_ushr, o_max, o_min, o_i2b, o_i2c, o_i2l, o_l2i, x_fld, j_fget, x_idx, j_aget, x_len, j_alen, x_ofb, x_ite, xs_nil, xs_cons, x_callv, x_calls, s_callv, s_calls, j_recv, j_ret, j_retv, b_cmp, b_and, b_or, b_not, b_ofi, b_ite, b_true, s_skip, s_set, j_ty, j_lset, j_kill, s_inc, s_fput, j_fput, s_fop, s_aput, j_aput, j_nar, s_aop, s_ret, s_retv, s_go, s_pop, x_linc, x_finc, Value.category, if_icmp.holds, List.flatMap_cons, List.flatMap_nil, List.length_cons, List.length_append, List.length_nil, List.set_cons_succ, List.set_cons_zero, List.getElem?_cons_succ, List.getElem?_cons_zero, List.replicate, ite_and', ite_or', ite_int', nI_leI, nI_ltI, nI_eq, nI_add, nI_1, pk_mul, nI_clamp, n_in', nI_pos', nI_pos, n_m1e, n_01, n_10, sT_1, sR_1_0, sR_1_1, sR_1_2, sR_1_3, sR_1_4, sR_1_5, sR_1_6, sR_1_7, sR_1_8, sR_1_9, sT_2, sT_3, sT_4, sT_5, sT_6, sT_7, sT_8, sT_9, sT_10, sT_11, sT_12, sT_13, sT_14, sR_2_1, sR_2_2, sR_2_3, sR_2_4, sR_2_5, sR_2_6, sR_2_7, sR_2_8, sR_2_9, sR_2_10, sR_2_11, sR_2_12, sT_15, sT_16, sT_17, sT_18, sT_19, sT_20, sT_21, sT_22, sT_23, sR_15_1, sR_15_2, sR_15_3, sR_15_4, sR_15_5, sR_15_6, sR_15_7, sR_15_8, sT_24, sT_25, sT_26, sT_27, sT_28, sT_29, sR_24_1, sR_24_2, sR_24_3, sR_24_4, sR_24_5, sT_71, sT_72, sR_71_0, sR_71_1, sR_71_2, sR_71_3, sR_71_4, sT_73, sT_74, sT_75, sR_73_0, sR_73_1, sR_73_2, sR_73_3, sR_73_4, sR_73_5, sT_84, sT_85, sT_86, sT_87, sR_84_0, sR_84_1, sR_84_2, sR_84_3, sR_84_4, sR_84_5, sT_88, sT_89, sR_88_0, sT_90, sT_91, sR_90_0, nI_0, hL]
theorem e_Ma_mayGrow {A : AS} {mv : Nat → Nat} {h : jHp} (x : MV A mv h) {o S : Nat} (ho : o < 4) : f_Ma_mayGrow [.ref 71, .int (nI o), .int (nI (slM A S))] h = some (some (.int (if tG A o (mv o) (prt o (slM A S)) then 1 else 0)), h) := by
  have hs := x.1.1.1
  have w := x.1.1.2.1
  have hX := slM_lt w S
  have ep := e_B_partOf (h := h) ho hX
  have ee := e_Ma_entryT x (S := S) ho
  have hE : nI (tE A o (mv o) (prt o (slM A S))) &&& nI 256 = nI (if tG A o (mv o) (prt o (slM A S)) then 256 else 0) := by rw [n_and, tE_g]
  generalize tE A o (mv o) (prt o (slM A S)) = E at *
  generalize tG A o (mv o) (prt o (slM A S)) = G at *
  generalize prt o (slM A S) = Q at *
  have h256 : (nI 256 = 0) = False := by decide
  cases G with
  | true =>
    simp only [if_true] at hE
    simp (disch := first | assumption | omega) [f_Ma_mayGrow, body_Ma_mayGrow, j_meth, j_out, j_rok, j_pad, lg_sl, s_seq_w, isN_inl, isN_inr, s_if, jb, x_c, x_iloc, x_aloc, x_lloc, x_bin, x_un, o_add, o_sub, o_mul, o_and, o_or, o_xor, o_shl, o_shr, o_ushr, o_max, o_min, o_i2b, o_i2c, o_i2l, o_l2i, x_fld, j_fget, x_idx, j_aget, x_len, j_alen, x_ofb, x_ite, xs_nil, xs_cons, x_callv, x_calls, s_callv, s_calls, j_recv, j_ret, j_retv, b_cmp, b_and, b_or, b_not, b_ofi, b_ite, b_true, s_skip, s_set, j_ty, j_lset, j_kill, s_inc, s_fput, j_fput, s_fop, s_aput, j_aput, j_nar, s_aop, s_ret, s_retv, s_go, s_pop, x_linc, x_finc, Value.category, if_icmp.holds, List.flatMap_cons, List.flatMap_nil, List.length_cons, List.length_append, List.length_nil, List.set_cons_succ, List.set_cons_zero, List.getElem?_cons_succ, List.getElem?_cons_zero, List.replicate, ite_and', ite_or', ite_int', nI_leI, nI_ltI, nI_eq, nI_add, nI_1, pk_mul, nI_clamp, n_in', nI_pos', nI_pos, n_m1e, n_01, n_10, sT_1, sR_1_0, sR_1_1, sR_1_2, sR_1_3, sR_1_4, sR_1_5, sR_1_6, sR_1_7, sR_1_8, sR_1_9, sT_2, sT_3, sT_4, sT_5, sT_6, sT_7, sT_8, sT_9, sT_10, sT_11, sT_12, sT_13, sT_14, sR_2_1, sR_2_2, sR_2_3, sR_2_4, sR_2_5, sR_2_6, sR_2_7, sR_2_8, sR_2_9, sR_2_10, sR_2_11, sR_2_12, sT_15, sT_16, sT_17, sT_18, sT_19, sT_20, sT_21, sT_22, sT_23, sR_15_1, sR_15_2, sR_15_3, sR_15_4, sR_15_5, sR_15_6, sR_15_7, sR_15_8, sT_24, sT_25, sT_26, sT_27, sT_28, sT_29, sR_24_1, sR_24_2, sR_24_3, sR_24_4, sR_24_5, sT_71, sT_72, sR_71_0, sR_71_1, sR_71_2, sR_71_3, sR_71_4, sT_73, sT_74, sT_75, sR_73_0, sR_73_1, sR_73_2, sR_73_3, sR_73_4, sR_73_5, sT_84, sT_85, sT_86, sT_87, sR_84_0, sR_84_1, sR_84_2, sR_84_3, sR_84_4, sR_84_5, sT_88, sT_89, sR_88_0, sT_90, sT_91, sR_90_0, ep, ee, hE, h256]
  | false =>
    simp only [Bool.false_eq_true, if_false] at hE
    simp (disch := first | assumption | omega) [f_Ma_mayGrow, body_Ma_mayGrow, j_meth, j_out, j_rok, j_pad, lg_sl, s_seq_w, isN_inl, isN_inr, s_if, jb, x_c, x_iloc, x_aloc, x_lloc, x_bin, x_un, o_add, o_sub, o_mul, o_and, o_or, o_xor, o_shl, o_shr, o_ushr, o_max, o_min, o_i2b, o_i2c, o_i2l, o_l2i, x_fld, j_fget, x_idx, j_aget, x_len, j_alen, x_ofb, x_ite, xs_nil, xs_cons, x_callv, x_calls, s_callv, s_calls, j_recv, j_ret, j_retv, b_cmp, b_and, b_or, b_not, b_ofi, b_ite, b_true, s_skip, s_set, j_ty, j_lset, j_kill, s_inc, s_fput, j_fput, s_fop, s_aput, j_aput, j_nar, s_aop, s_ret, s_retv, s_go, s_pop, x_linc, x_finc, Value.category, if_icmp.holds, List.flatMap_cons, List.flatMap_nil, List.length_cons, List.length_append, List.length_nil, List.set_cons_succ, List.set_cons_zero, List.getElem?_cons_succ, List.getElem?_cons_zero, List.replicate, ite_and', ite_or', ite_int', nI_leI, nI_ltI, nI_eq, nI_add, nI_1, pk_mul, nI_clamp, n_in', nI_pos', nI_pos, n_m1e, n_01, n_10, sT_1, sR_1_0, sR_1_1, sR_1_2, sR_1_3, sR_1_4, sR_1_5, sR_1_6, sR_1_7, sR_1_8, sR_1_9, sT_2, sT_3, sT_4, sT_5, sT_6, sT_7, sT_8, sT_9, sT_10, sT_11, sT_12, sT_13, sT_14, sR_2_1, sR_2_2, sR_2_3, sR_2_4, sR_2_5, sR_2_6, sR_2_7, sR_2_8, sR_2_9, sR_2_10, sR_2_11, sR_2_12, sT_15, sT_16, sT_17, sT_18, sT_19, sT_20, sT_21, sT_22, sT_23, sR_15_1, sR_15_2, sR_15_3, sR_15_4, sR_15_5, sR_15_6, sR_15_7, sR_15_8, sT_24, sT_25, sT_26, sT_27, sT_28, sT_29, sR_24_1, sR_24_2, sR_24_3, sR_24_4, sR_24_5, sT_71, sT_72, sR_71_0, sR_71_1, sR_71_2, sR_71_3, sR_71_4, sT_73, sT_74, sT_75, sR_73_0, sR_73_1, sR_73_2, sR_73_3, sR_73_4, sR_73_5, sT_84, sT_85, sT_86, sT_87, sR_84_0, sR_84_1, sR_84_2, sR_84_3, sR_84_4, sR_84_5, sT_88, sT_89, sR_88_0, sT_90, sT_91, sR_90_0, ep, ee, hE, nI_0]
/-- the first OFFICE that would rather take otherwise -/
theorem e_Ma_breakingOffice {A : AS} {mv : Nat → Nat} {h : jHp} (x : MV A mv h) (S Wt : Nat) : f_Ma_breakingOffice [.ref 71, .int (nI (slM A S)), .int (nI (slM A Wt))] h = some (some (.int (oI (fst1 (fun f => sTk (aMv A mv) f (S ||| Wt) != S &&& sOff A f) (aNo A)))), h) := by
  have hs := x.1.1.1
  have w := x.1.1.2.1
  have hno := w.2.1
  have hX := slM_lt w S
  have hZ := slM_lt w (S ||| Wt)
  have hor : nI (slM A S) ||| nI (slM A Wt) = nI (slM A (S ||| Wt)) := by rw [n_or, slM_or]
  have hsp : fst1 (fun f => sTk (aMv A mv) f (S ||| Wt) != S &&& sOff A f) (aNo A) = fst1 (fun o => tP A o (mv o) (prt o (slM A (S ||| Wt))) != prt o (slM A S)) 4 := by
    have hpe : ∀ o, (tP A o (mv o) (prt o (slM A (S ||| Wt))) != prt o (slM A S)) = (sTk (aMv A mv) o (S ||| Wt) != S &&& sOff A o) := fun o => by
      rw [Bool.eq_iff_iff, bne_iff_ne, bne_iff_ne, Ne, Ne, tk_iff w mv]
    rw [fst1_congr (p := fun o => tP A o (mv o) (prt o (slM A (S ||| Wt))) != prt o (slM A S)) (q := fun f => sTk (aMv A mv) f (S ||| Wt) != S &&& sOff A f) fun o _ => hpe o]
    refine (fst1_ext hno fun i h1 h2 => ?_).symm
    rw [sTk_hi (WF_mv w mv) h1, sOff_hi w h1, Nat.and_zero]
    rfl
  rw [hsp]
  have hL := loop_wp (lb := 1) (lc := 2) (c := lc_Ma_breakingOffice_1) (b := lb_Ma_breakingOffice_1) (u := lu_Ma_breakingOffice_1) 4
    (fun o st => ∃ v, st = ([.ref 71, .int (nI (slM A S)), .int (nI (slM A Wt)), .int (nI o), v], h) ∧ ∀ m, m < o → (tP A m (mv m) (prt m (slM A (S ||| Wt))) != prt m (slM A S)) = false)
    (fun r => (∃ o v, r = (.inr (some (.int (nI o))), ([.ref 71, .int (nI (slM A S)), .int (nI (slM A Wt)), .int (nI o), v], h)) ∧ fst1 (fun o => tP A o (mv o) (prt o (slM A (S ||| Wt))) != prt o (slM A S)) 4 = some o) ∨ (∃ v, r = (.inl 0, ([.ref 71, .int (nI (slM A S)), .int (nI (slM A Wt)), .int (nI 4), v], h)) ∧ fst1 (fun o => tP A o (mv o) (prt o (slM A (S ||| Wt))) != prt o (slM A S)) 4 = none))
    ?_ ?_ ([.ref 71, .int (nI (slM A S)), .int (nI (slM A Wt)), .int (nI 0), .null], h) ⟨_, rfl, fun m hm => by omega⟩
  · obtain ⟨r, e, ⟨o, v, rfl, hf⟩ | ⟨v, rfl, hf⟩⟩ := hL
    · rw [hf, oI_s]
      simp only [nI_0] at e
      simp (disch := first | assumption | omega) [f_Ma_breakingOffice, body_Ma_breakingOffice, j_meth, j_out, j_rok, j_pad, lg_sl, s_seq_w, isN_inl, isN_inr, s_if, jb, x_c, x_iloc, x_aloc, x_lloc, x_bin, x_un, o_add, o_sub, o_mul, o_and, o_or, o_xor, o_shl, o_shr, o_ushr, o_max, o_min, o_i2b, o_i2c, o_i2l, o_l2i, x_fld, j_fget, x_idx, j_aget, x_len, j_alen, x_ofb, x_ite, xs_nil, xs_cons, x_callv, x_calls, s_callv, s_calls, j_recv, j_ret, j_retv, b_cmp, b_and, b_or, b_not, b_ofi, b_ite, b_true, s_skip, s_set, j_ty, j_lset, j_kill, s_inc, s_fput, j_fput, s_fop, s_aput, j_aput, j_nar, s_aop, s_ret, s_retv, s_go, s_pop, x_linc, x_finc, Value.category, if_icmp.holds, List.flatMap_cons, List.flatMap_nil, List.length_cons, List.length_append, List.length_nil, List.set_cons_succ, List.set_cons_zero, List.getElem?_cons_succ, List.getElem?_cons_zero, List.replicate, ite_and', ite_or', ite_int', nI_leI, nI_ltI, nI_eq, nI_add, nI_1, pk_mul, nI_clamp, n_in', nI_pos', nI_pos, n_m1e, n_01, n_10, sT_1, sR_1_0, sR_1_1, sR_1_2, sR_1_3, sR_1_4, sR_1_5, sR_1_6, sR_1_7, sR_1_8, sR_1_9, sT_2, sT_3, sT_4, sT_5, sT_6, sT_7, sT_8, sT_9, sT_10, sT_11, sT_12, sT_13, sT_14, sR_2_1, sR_2_2, sR_2_3, sR_2_4, sR_2_5, sR_2_6, sR_2_7, sR_2_8, sR_2_9, sR_2_10, sR_2_11, sR_2_12, sT_15, sT_16, sT_17, sT_18, sT_19, sT_20, sT_21, sT_22, sT_23, sR_15_1, sR_15_2, sR_15_3, sR_15_4, sR_15_5, sR_15_6, sR_15_7, sR_15_8, sT_24, sT_25, sT_26, sT_27, sT_28, sT_29, sR_24_1, sR_24_2, sR_24_3, sR_24_4, sR_24_5, sT_71, sT_72, sR_71_0, sR_71_1, sR_71_2, sR_71_3, sR_71_4, sT_73, sT_74, sT_75, sR_73_0, sR_73_1, sR_73_2, sR_73_3, sR_73_4, sR_73_5, sT_84, sT_85, sT_86, sT_87, sR_84_0, sR_84_1, sR_84_2, sR_84_3, sR_84_4, sR_84_5, sT_88, sT_89, sR_88_0, sT_90, sT_91, sR_90_0, nI_0, e]
    · rw [hf, oI_n]
      simp only [nI_0] at e
      simp (disch := first | assumption | omega) [f_Ma_breakingOffice, body_Ma_breakingOffice, j_meth, j_out, j_rok, j_pad, lg_sl, s_seq_w, isN_inl, isN_inr, s_if, jb, x_c, x_iloc, x_aloc, x_lloc, x_bin, x_un, o_add, o_sub, o_mul, o_and, o_or, o_xor, o_shl, o_shr, o_ushr, o_max, o_min, o_i2b, o_i2c, o_i2l, o_l2i, x_fld, j_fget, x_idx, j_aget, x_len, j_alen, x_ofb, x_ite, xs_nil, xs_cons, x_callv, x_calls, s_callv, s_calls, j_recv, j_ret, j_retv, b_cmp, b_and, b_or, b_not, b_ofi, b_ite, b_true, s_skip, s_set, j_ty, j_lset, j_kill, s_inc, s_fput, j_fput, s_fop, s_aput, j_aput, j_nar, s_aop, s_ret, s_retv, s_go, s_pop, x_linc, x_finc, Value.category, if_icmp.holds, List.flatMap_cons, List.flatMap_nil, List.length_cons, List.length_append, List.length_nil, List.set_cons_succ, List.set_cons_zero, List.getElem?_cons_succ, List.getElem?_cons_zero, List.replicate, ite_and', ite_or', ite_int', nI_leI, nI_ltI, nI_eq, nI_add, nI_1, pk_mul, nI_clamp, n_in', nI_pos', nI_pos, n_m1e, n_01, n_10, sT_1, sR_1_0, sR_1_1, sR_1_2, sR_1_3, sR_1_4, sR_1_5, sR_1_6, sR_1_7, sR_1_8, sR_1_9, sT_2, sT_3, sT_4, sT_5, sT_6, sT_7, sT_8, sT_9, sT_10, sT_11, sT_12, sT_13, sT_14, sR_2_1, sR_2_2, sR_2_3, sR_2_4, sR_2_5, sR_2_6, sR_2_7, sR_2_8, sR_2_9, sR_2_10, sR_2_11, sR_2_12, sT_15, sT_16, sT_17, sT_18, sT_19, sT_20, sT_21, sT_22, sT_23, sR_15_1, sR_15_2, sR_15_3, sR_15_4, sR_15_5, sR_15_6, sR_15_7, sR_15_8, sT_24, sT_25, sT_26, sT_27, sT_28, sT_29, sR_24_1, sR_24_2, sR_24_3, sR_24_4, sR_24_5, sT_71, sT_72, sR_71_0, sR_71_1, sR_71_2, sR_71_3, sR_71_4, sT_73, sT_74, sT_75, sR_73_0, sR_73_1, sR_73_2, sR_73_3, sR_73_4, sR_73_5, sT_84, sT_85, sT_86, sT_87, sR_84_0, sR_84_1, sR_84_2, sR_84_3, sR_84_4, sR_84_5, sT_88, sT_89, sR_88_0, sT_90, sT_91, sR_90_0, nI_0, e]
  · rintro o st ho ⟨v, rfl, hall⟩
    have ep := e_B_partOf (h := h) ho hX
    have ep2 := e_B_partOf (h := h) ho hZ
    have ee := e_Ma_entryT x (S := S ||| Wt) ho
    have hE : nI (tE A o (mv o) (prt o (slM A (S ||| Wt)))) &&& nI 255 = nI (tP A o (mv o) (prt o (slM A (S ||| Wt)))) := by rw [n_and, tE_and]
    have hne := n_neT (A := A) (o := o) (l := mv o) (P := prt o (slM A (S ||| Wt))) (prt_lt o (slM A S))
    by_cases z : tP A o (mv o) (prt o (slM A (S ||| Wt))) = prt o (slM A S)
    · left
      refine ⟨([.ref 71, .int (nI (slM A S)), .int (nI (slM A Wt)), .int (nI (o + 1)), .int (nI (prt o (slM A S)))], h), ?_, _, rfl, fun m hm => ?_⟩
      · clear hall
        generalize tE A o (mv o) (prt o (slM A (S ||| Wt))) = E at *
        generalize tP A o (mv o) (prt o (slM A (S ||| Wt))) = T at *
        generalize prt o (slM A S) = Q at *
        subst z
        simp (disch := first | assumption | omega) [lstp, lc_Ma_breakingOffice_1, lb_Ma_breakingOffice_1, lu_Ma_breakingOffice_1, j_meth, j_out, j_rok, j_pad, lg_sl, s_seq_w, isN_inl, isN_inr, s_if, jb, x_c, x_iloc, x_aloc, x_lloc, x_bin, x_un, o_add, o_sub, o_mul, o_and, o_or, o_xor, o_shl, o_shr, o_ushr, o_max, o_min, o_i2b, o_i2c, o_i2l, o_l2i, x_fld, j_fget, x_idx, j_aget, x_len, j_alen, x_ofb, x_ite, xs_nil, xs_cons, x_callv, x_calls, s_callv, s_calls, j_recv, j_ret, j_retv, b_cmp, b_and, b_or, b_not, b_ofi, b_ite, b_true, s_skip, s_set, j_ty, j_lset, j_kill, s_inc, s_fput, j_fput, s_fop, s_aput, j_aput, j_nar, s_aop, s_ret, s_retv, s_go, s_pop, x_linc, x_finc, Value.category, if_icmp.holds, List.flatMap_cons, List.flatMap_nil, List.length_cons, List.length_append, List.length_nil, List.set_cons_succ, List.set_cons_zero, List.getElem?_cons_succ, List.getElem?_cons_zero, List.replicate, ite_and', ite_or', ite_int', nI_leI, nI_ltI, nI_eq, nI_add, nI_1, pk_mul, nI_clamp, n_in', nI_pos', nI_pos, n_m1e, n_01, n_10, sT_1, sR_1_0, sR_1_1, sR_1_2, sR_1_3, sR_1_4, sR_1_5, sR_1_6, sR_1_7, sR_1_8, sR_1_9, sT_2, sT_3, sT_4, sT_5, sT_6, sT_7, sT_8, sT_9, sT_10, sT_11, sT_12, sT_13, sT_14, sR_2_1, sR_2_2, sR_2_3, sR_2_4, sR_2_5, sR_2_6, sR_2_7, sR_2_8, sR_2_9, sR_2_10, sR_2_11, sR_2_12, sT_15, sT_16, sT_17, sT_18, sT_19, sT_20, sT_21, sT_22, sT_23, sR_15_1, sR_15_2, sR_15_3, sR_15_4, sR_15_5, sR_15_6, sR_15_7, sR_15_8, sT_24, sT_25, sT_26, sT_27, sT_28, sT_29, sR_24_1, sR_24_2, sR_24_3, sR_24_4, sR_24_5, sT_71, sT_72, sR_71_0, sR_71_1, sR_71_2, sR_71_3, sR_71_4, sT_73, sT_74, sT_75, sR_73_0, sR_73_1, sR_73_2, sR_73_3, sR_73_4, sR_73_5, sT_84, sT_85, sT_86, sT_87, sR_84_0, sR_84_1, sR_84_2, sR_84_3, sR_84_4, sR_84_5, sT_88, sT_89, sR_88_0, sT_90, sT_91, sR_90_0, ho, hor, ep2, ee, hE, ep]
      · by_cases e : m = o
        · rw [e, z]; simp
        · exact hall m (by omega)
    · right
      have hpo : (tP A o (mv o) (prt o (slM A (S ||| Wt))) != prt o (slM A S)) = true := by simpa using z
      have hf := fst1_of (p := fun o => tP A o (mv o) (prt o (slM A (S ||| Wt))) != prt o (slM A S)) ho hpo hall
      refine ⟨_, ?_, Or.inl ⟨o, .int (nI (tP A o (mv o) (prt o (slM A (S ||| Wt))))), rfl, hf⟩⟩
      clear hall hf hpo
      generalize tE A o (mv o) (prt o (slM A (S ||| Wt))) = E at *
      generalize tP A o (mv o) (prt o (slM A (S ||| Wt))) = T at *
      generalize prt o (slM A S) = Q at *
      simp (disch := first | assumption | omega) [lstp, lc_Ma_breakingOffice_1, lb_Ma_breakingOffice_1, lu_Ma_breakingOffice_1, j_meth, j_out, j_rok, j_pad, lg_sl, s_seq_w, isN_inl, isN_inr, s_if, jb, x_c, x_iloc, x_aloc, x_lloc, x_bin, x_un, o_add, o_sub, o_mul, o_and, o_or, o_xor, o_shl, o_shr, o_ushr, o_max, o_min, o_i2b, o_i2c, o_i2l, o_l2i, x_fld, j_fget, x_idx, j_aget, x_len, j_alen, x_ofb, x_ite, xs_nil, xs_cons, x_callv, x_calls, s_callv, s_calls, j_recv, j_ret, j_retv, b_cmp, b_and, b_or, b_not, b_ofi, b_ite, b_true, s_skip, s_set, j_ty, j_lset, j_kill, s_inc, s_fput, j_fput, s_fop, s_aput, j_aput, j_nar, s_aop, s_ret, s_retv, s_go, s_pop, x_linc, x_finc, Value.category, if_icmp.holds, List.flatMap_cons, List.flatMap_nil, List.length_cons, List.length_append, List.length_nil, List.set_cons_succ, List.set_cons_zero, List.getElem?_cons_succ, List.getElem?_cons_zero, List.replicate, ite_and', ite_or', ite_int', nI_leI, nI_ltI, nI_eq, nI_add, nI_1, pk_mul, nI_clamp, n_in', nI_pos', nI_pos, n_m1e, n_01, n_10, sT_1, sR_1_0, sR_1_1, sR_1_2, sR_1_3, sR_1_4, sR_1_5, sR_1_6, sR_1_7, sR_1_8, sR_1_9, sT_2, sT_3, sT_4, sT_5, sT_6, sT_7, sT_8, sT_9, sT_10, sT_11, sT_12, sT_13, sT_14, sR_2_1, sR_2_2, sR_2_3, sR_2_4, sR_2_5, sR_2_6, sR_2_7, sR_2_8, sR_2_9, sR_2_10, sR_2_11, sR_2_12, sT_15, sT_16, sT_17, sT_18, sT_19, sT_20, sT_21, sT_22, sT_23, sR_15_1, sR_15_2, sR_15_3, sR_15_4, sR_15_5, sR_15_6, sR_15_7, sR_15_8, sT_24, sT_25, sT_26, sT_27, sT_28, sT_29, sR_24_1, sR_24_2, sR_24_3, sR_24_4, sR_24_5, sT_71, sT_72, sR_71_0, sR_71_1, sR_71_2, sR_71_3, sR_71_4, sT_73, sT_74, sT_75, sR_73_0, sR_73_1, sR_73_2, sR_73_3, sR_73_4, sR_73_5, sT_84, sT_85, sT_86, sT_87, sR_84_0, sR_84_1, sR_84_2, sR_84_3, sR_84_4, sR_84_5, sT_88, sT_89, sR_88_0, sT_90, sT_91, sR_90_0, ho, hor, ep2, ee, hE, ep, hne, z]
  · rintro st ⟨v, rfl, hall⟩
    refine ⟨_, ?_, Or.inr ⟨v, rfl, fst1_no hall⟩⟩
    simp (disch := first | assumption | omega) [lstp, lc_Ma_breakingOffice_1, lb_Ma_breakingOffice_1, lu_Ma_breakingOffice_1, j_meth, j_out, j_rok, j_pad, lg_sl, s_seq_w, isN_inl, isN_inr, s_if, jb, x_c, x_iloc, x_aloc, x_lloc, x_bin, x_un, o_add, o_sub, o_mul, o_and, o_or, o_xor, o_shl, o_shr, o_ushr, o_max, o_min, o_i2b, o_i2c, o_i2l, o_l2i, x_fld, j_fget, x_idx, j_aget, x_len, j_alen, x_ofb, x_ite, xs_nil, xs_cons, x_callv, x_calls, s_callv, s_calls, j_recv, j_ret, j_retv, b_cmp, b_and, b_or, b_not, b_ofi, b_ite, b_true, s_skip, s_set, j_ty, j_lset, j_kill, s_inc, s_fput, j_fput, s_fop, s_aput, j_aput, j_nar, s_aop, s_ret, s_retv, s_go, s_pop, x_linc, x_finc, Value.category, if_icmp.holds, List.flatMap_cons, List.flatMap_nil, List.length_cons, List.length_append, List.length_nil, List.set_cons_succ, List.set_cons_zero, List.getElem?_cons_succ, List.getElem?_cons_zero, List.replicate, ite_and', ite_or', ite_int', nI_leI, nI_ltI, nI_eq, nI_add, nI_1, pk_mul, nI_clamp, n_in', nI_pos', nI_pos, n_m1e, n_01, n_10, sT_1, sR_1_0, sR_1_1, sR_1_2, sR_1_3, sR_1_4, sR_1_5, sR_1_6, sR_1_7, sR_1_8, sR_1_9, sT_2, sT_3, sT_4, sT_5, sT_6, sT_7, sT_8, sT_9, sT_10, sT_11, sT_12, sT_13, sT_14, sR_2_1, sR_2_2, sR_2_3, sR_2_4, sR_2_5, sR_2_6, sR_2_7, sR_2_8, sR_2_9, sR_2_10, sR_2_11, sR_2_12, sT_15, sT_16, sT_17, sT_18, sT_19, sT_20, sT_21, sT_22, sT_23, sR_15_1, sR_15_2, sR_15_3, sR_15_4, sR_15_5, sR_15_6, sR_15_7, sR_15_8, sT_24, sT_25, sT_26, sT_27, sT_28, sT_29, sR_24_1, sR_24_2, sR_24_3, sR_24_4, sR_24_5, sT_71, sT_72, sR_71_0, sR_71_1, sR_71_2, sR_71_3, sR_71_4, sT_73, sT_74, sT_75, sR_73_0, sR_73_1, sR_73_2, sR_73_3, sR_73_4, sR_73_5, sT_84, sT_85, sT_86, sT_87, sR_84_0, sR_84_1, sR_84_2, sR_84_3, sR_84_4, sR_84_5, sT_88, sT_89, sR_88_0, sT_90, sT_91, sR_90_0]
