/-! the Walk: arrive -/
theorem cnt_none (p : Nat → Bool) : ∀ n, (fst1 p n).isNone = true ↔ cntN p n = 0 := by
  intro n
  rw [fst1_all]
  constructor
  · intro h
    induction n with
    | zero => rfl
    | succ n ih =>
      have : cntN p (n + 1) = if p n = true then cntN p n + 1 else cntN p n := rfl
      rw [this, h n (by omega)]
      exact ih fun i hi => h i (by omega)
  · intro h i hi
    induction n with
    | zero => omega
    | succ n ih =>
      have : cntN p (n + 1) = if p n = true then cntN p n + 1 else cntN p n := rfl
      rw [this] at h
      by_cases q : p n = true
      · rw [if_pos q] at h; omega
      · rw [if_neg q] at h
        by_cases e : i = n
        · subst e; simpa using q
        · exact ih h (by omega)
/-- what stands, of the sets that the walk has -/
theorem std_wk {A : AS} (w : WF A) {S : Nat} (hS : S < 2 ^ aNb A) (hm : sMat A S) : sStd A S = (sFree A S && ((sBk3 A S).isNone && (sBk4 A S).isNone)) := by
  unfold sStd sJdg
  rw [if_neg (fun q => q ((sMat_pop w hS).mpr hm))]
  cases hf : sFree A S with
  | false => simp
  | true =>
    cases h3 : sBk3 A S with
    | some f => simp
    | none =>
      cases h4 : sBk4 A S with
      | some c => simp
      | none => simp
noncomputable def wa_0 : jSt := (s_if (b_or (b_not (b_ofi (x_callv 5 f_Ma_isTakenWhole (xs_cons (x_fld 11 1 3 (x_aloc 0)) (xs_cons (x_iloc 2) xs_nil))))) (b_not (b_ofi (x_callv 5 f_Ma_couplesHavePairs (xs_cons (x_fld 11 1 3 (x_aloc 0)) (xs_cons (x_iloc 1) xs_nil)))))) (s_ret (x_c (.int (nI 0)))) s_skip)
noncomputable def wa_1 : jSt := (s_if (b_cmp .eq (x_fld 11 0 7 (x_aloc 0)) (x_c (.int (nI 1)))) (s_ret (x_callv 11 f_W_weigh (xs_cons (x_aloc 0) (xs_cons (x_iloc 1) (xs_cons (x_bin o_add (x_callv 5 f_Ma_breakingBonds (xs_cons (x_fld 11 1 3 (x_aloc 0)) (xs_cons (x_iloc 2) (xs_cons (x_iloc 3) xs_nil)))) (x_callv 5 f_Ma_breakingCouples (xs_cons (x_fld 11 1 3 (x_aloc 0)) (xs_cons (x_iloc 1) (xs_cons (x_iloc 2) xs_nil))))) xs_nil))))) s_skip)
noncomputable def wa_2 : jSt := (s_if (b_or (b_cmp .ne (x_callv 5 f_Ma_breakingOffice (xs_cons (x_fld 11 1 3 (x_aloc 0)) (xs_cons (x_iloc 2) (xs_cons (x_iloc 3) xs_nil)))) (x_c (.int (-1)))) (b_cmp .gt (x_callv 5 f_Ma_breakingCouples (xs_cons (x_fld 11 1 3 (x_aloc 0)) (xs_cons (x_iloc 1) (xs_cons (x_iloc 2) xs_nil)))) (x_c (.int 0)))) (s_ret (x_c (.int (nI 0)))) s_skip)
noncomputable def wa_3 : jSt := (s_if (b_cmp .eq (x_fld 11 0 7 (x_aloc 0)) (x_c (.int 0))) (s_callv 11 f_W_keep (xs_cons (x_aloc 0) (xs_cons (x_iloc 1) xs_nil))) s_skip)
noncomputable def wa_4 : jSt := (s_ret (x_ofb (b_cmp .eq (x_fld 11 0 7 (x_aloc 0)) (x_c (.int (nI 2))))))
theorem W_arrive_s : f_W_arrive = j_meth 2 4 (s_seq wa_0 (s_seq wa_1 (s_seq wa_2 (s_seq wa_3 wa_4)))) := rfl
theorem free_mv {A : AS} {mv : Nat → Nat} {S : Nat} (h : okS A S) : sFree (aMv A mv) S = ((sF3 (aMv A mv) S).isNone && (sF2 A S).isNone) := by
  have h1 : (sF1 (aMv A mv) S).isNone = true := h.2.2
  have h2 : sF2 (aMv A mv) S = sF2 A S := rfl
  unfold sFree
  rw [h1, h2, Bool.true_and, Bool.and_comm]
theorem e_W_arr0 {A : AS} {mv : Nat → Nat} {h : jHp} (x : MV A mv h) {S : Nat} (oS : okS A S) (s2 : Int32) : wa_0 ([.ref 73, .int (nI S), .int (nI (slM A S)), .int s2], h) = some (if sFree (aMv A mv) S then .inl 0 else .inr (some (.int 0)), ([.ref 73, .int (nI S), .int (nI (slM A S)), .int s2], h)) := by
  have hs := x.1.1.1
  rw [free_mv oS]
  have e1 := e_Ma_isTakenWhole x S
  have e2 := e_Ma_couplesHavePairs x.1 oS.1 oS.2.1
  have h10 : ((1 : Int32) = 0) = False := by decide
  generalize (sF3 (aMv A mv) S).isNone = b3 at *
  generalize (sF2 A S).isNone = b2 at *
  generalize slM A S = s1 at *
  clear x
  cases b3 <;> cases b2 <;> simp (disch := first | assumption | omega) [wa_0, j_meth, j_out, j_rok, j_pad, lg_sl, s_seq_w, isN_inl, isN_inr, s_if, jb, x_c, x_iloc, x_aloc, x_lloc, x_bin, x_un, o_add, o_sub, o_mul, o_and, o_or, o_xor, o_shl, o_shr, o_ushr, o_max, o_min, o_i2b, o_i2c, o_i2l, o_l2i, x_fld, j_fget, x_idx, j_aget, x_len, j_alen, x_ofb, x_ite, xs_nil, xs_cons, x_callv, x_calls, s_callv, s_calls, j_recv, j_ret, j_retv, b_cmp, b_and, b_or, b_not, b_ofi, b_ite, b_true, s_skip, s_set, j_ty, j_lset, j_kill, s_inc, s_fput, j_fput, s_fop, s_aput, j_aput, j_nar, s_aop, s_ret, s_retv, s_go, s_pop, x_linc, x_finc, Value.category, if_icmp.holds, List.flatMap_cons, List.flatMap_nil, List.length_cons, List.length_append, List.length_nil, List.set_cons_succ, List.set_cons_zero, List.getElem?_cons_succ, List.getElem?_cons_zero, List.replicate, ite_and', ite_or', ite_int', nI_leI, nI_ltI, nI_eq, nI_add, nI_1, pk_mul, nI_clamp, n_in', nI_pos', nI_pos, n_m1e, n_01, n_10, sT_1, sR_1_0, sR_1_1, sR_1_2, sR_1_3, sR_1_4, sR_1_5, sR_1_6, sR_1_7, sR_1_8, sR_1_9, sT_2, sT_3, sT_4, sT_5, sT_6, sT_7, sT_8, sT_9, sT_10, sT_11, sT_12, sT_13, sT_14, sR_2_1, sR_2_2, sR_2_3, sR_2_4, sR_2_5, sR_2_6, sR_2_7, sR_2_8, sR_2_9, sR_2_10, sR_2_11, sR_2_12, sT_15, sT_16, sT_17, sT_18, sT_19, sT_20, sT_21, sT_22, sT_23, sR_15_1, sR_15_2, sR_15_3, sR_15_4, sR_15_5, sR_15_6, sR_15_7, sR_15_8, sT_24, sT_25, sT_26, sT_27, sT_28, sT_29, sR_24_1, sR_24_2, sR_24_3, sR_24_4, sR_24_5, sT_71, sT_72, sR_71_0, sR_71_1, sR_71_2, sR_71_3, sR_71_4, sT_73, sT_74, sT_75, sR_73_0, sR_73_1, sR_73_2, sR_73_3, sR_73_4, sR_73_5, sT_84, sT_85, sT_86, sT_87, sR_84_0, sR_84_1, sR_84_2, sR_84_3, sR_84_4, sR_84_5, sT_88, sT_89, sR_88_0, sT_90, sT_91, sR_90_0, e1, e2, h10] <;> rfl
theorem e_W_arr2 {A : AS} {mv : Nat → Nat} {h : jHp} (x : MV A mv h) {S : Nat} (oS : okS A S) (hf : sFree (aMv A mv) S = true) : wa_2 ([.ref 73, .int (nI S), .int (nI (slM A S)), .int (nI (slM A (sWt A S)))], h) = some (if sStd (aMv A mv) S then .inl 0 else .inr (some (.int 0)), ([.ref 73, .int (nI S), .int (nI (slM A S)), .int (nI (slM A (sWt A S)))], h)) := by
  have hs := x.1.1.1
  have w := x.1.1.2.1
  have wB := WF_mv w mv
  have e1 := e_Ma_breakingOffice x S (sWt A S)
  have e2 := e_Ma_breakingCouples x oS.1 oS.2.1
  have hst := std_wk wB (S := S) oS.1 oS.2.1
  rw [hf, Bool.true_and] at hst
  rw [hst]
  have h3 : (sF3 (aMv A mv) S).isNone = true := by
    unfold sFree at hf
    rw [Bool.and_eq_true] at hf
    exact hf.2
  have hbk := bk3_ok wB h3
  have e1' : f_Ma_breakingOffice [.ref 71, .int (nI (slM A S)), .int (nI (slM A (sWt A S)))] h = some (some (.int (oI (sBk3 (aMv A mv) S))), h) := by
    rw [← hbk]
    exact e1
  have hb4 : (sBk4 (aMv A mv) S).isNone = true ↔ cntN (fun c => (sBrP (aMv A mv) S c).isSome) (aNc A) = 0 := cnt_none _ _
  have hcl := cntN_le (fun c => (sBrP (aMv A mv) S c).isSome) (aNc A)
  have hc2 := w.2.2.2.2.1.1
  have hlt : ∀ f, sBk3 (aMv A mv) S = some f → f < 4 := fun f q => by
    have h1 := fst1_lt q
    have h2 := wB.2.1
    omega
  clear e1 hbk h3 hf hst x
  generalize cntN (fun c => (sBrP (aMv A mv) S c).isSome) (aNc A) = n at *
  generalize (sBk4 (aMv A mv) S).isNone = b4 at *
  generalize sBk3 (aMv A mv) S = o at *
  generalize slM A (sWt A S) = s2 at *
  generalize slM A S = s1 at *
  have h00 : (nI 0 = 0) = True := by decide
  cases o with
  | some f =>
    rw [oI_s] at e1'
    have := hlt f rfl
    have hne : (nI f = -1) = False := n_m1e (by omega)
    simp (disch := first | assumption | omega) [wa_2, j_meth, j_out, j_rok, j_pad, lg_sl, s_seq_w, isN_inl, isN_inr, s_if, jb, x_c, x_iloc, x_aloc, x_lloc, x_bin, x_un, o_add, o_sub, o_mul, o_and, o_or, o_xor, o_shl, o_shr, o_ushr, o_max, o_min, o_i2b, o_i2c, o_i2l, o_l2i, x_fld, j_fget, x_idx, j_aget, x_len, j_alen, x_ofb, x_ite, xs_nil, xs_cons, x_callv, x_calls, s_callv, s_calls, j_recv, j_ret, j_retv, b_cmp, b_and, b_or, b_not, b_ofi, b_ite, b_true, s_skip, s_set, j_ty, j_lset, j_kill, s_inc, s_fput, j_fput, s_fop, s_aput, j_aput, j_nar, s_aop, s_ret, s_retv, s_go, s_pop, x_linc, x_finc, Value.category, if_icmp.holds, List.flatMap_cons, List.flatMap_nil, List.length_cons, List.length_append, List.length_nil, List.set_cons_succ, List.set_cons_zero, List.getElem?_cons_succ, List.getElem?_cons_zero, List.replicate, ite_and', ite_or', ite_int', nI_leI, nI_ltI, nI_eq, nI_add, nI_1, pk_mul, nI_clamp, n_in', nI_pos', nI_pos, n_m1e, n_01, n_10, sT_1, sR_1_0, sR_1_1, sR_1_2, sR_1_3, sR_1_4, sR_1_5, sR_1_6, sR_1_7, sR_1_8, sR_1_9, sT_2, sT_3, sT_4, sT_5, sT_6, sT_7, sT_8, sT_9, sT_10, sT_11, sT_12, sT_13, sT_14, sR_2_1, sR_2_2, sR_2_3, sR_2_4, sR_2_5, sR_2_6, sR_2_7, sR_2_8, sR_2_9, sR_2_10, sR_2_11, sR_2_12, sT_15, sT_16, sT_17, sT_18, sT_19, sT_20, sT_21, sT_22, sT_23, sR_15_1, sR_15_2, sR_15_3, sR_15_4, sR_15_5, sR_15_6, sR_15_7, sR_15_8, sT_24, sT_25, sT_26, sT_27, sT_28, sT_29, sR_24_1, sR_24_2, sR_24_3, sR_24_4, sR_24_5, sT_71, sT_72, sR_71_0, sR_71_1, sR_71_2, sR_71_3, sR_71_4, sT_73, sT_74, sT_75, sR_73_0, sR_73_1, sR_73_2, sR_73_3, sR_73_4, sR_73_5, sT_84, sT_85, sT_86, sT_87, sR_84_0, sR_84_1, sR_84_2, sR_84_3, sR_84_4, sR_84_5, sT_88, sT_89, sR_88_0, sT_90, sT_91, sR_90_0, e1', hne]
    rfl
  | none =>
    rw [oI_n] at e1'
    cases b4 with
    | true =>
      have hn : n = 0 := hb4.mp rfl
      subst hn
      simp (disch := first | assumption | omega) [wa_2, j_meth, j_out, j_rok, j_pad, lg_sl, s_seq_w, isN_inl, isN_inr, s_if, jb, x_c, x_iloc, x_aloc, x_lloc, x_bin, x_un, o_add, o_sub, o_mul, o_and, o_or, o_xor, o_shl, o_shr, o_ushr, o_max, o_min, o_i2b, o_i2c, o_i2l, o_l2i, x_fld, j_fget, x_idx, j_aget, x_len, j_alen, x_ofb, x_ite, xs_nil, xs_cons, x_callv, x_calls, s_callv, s_calls, j_recv, j_ret, j_retv, b_cmp, b_and, b_or, b_not, b_ofi, b_ite, b_true, s_skip, s_set, j_ty, j_lset, j_kill, s_inc, s_fput, j_fput, s_fop, s_aput, j_aput, j_nar, s_aop, s_ret, s_retv, s_go, s_pop, x_linc, x_finc, Value.category, if_icmp.holds, List.flatMap_cons, List.flatMap_nil, List.length_cons, List.length_append, List.length_nil, List.set_cons_succ, List.set_cons_zero, List.getElem?_cons_succ, List.getElem?_cons_zero, List.replicate, ite_and', ite_or', ite_int', nI_leI, nI_ltI, nI_eq, nI_add, nI_1, pk_mul, nI_clamp, n_in', nI_pos', nI_pos, n_m1e, n_01, n_10, sT_1, sR_1_0, sR_1_1, sR_1_2, sR_1_3, sR_1_4, sR_1_5, sR_1_6, sR_1_7, sR_1_8, sR_1_9, sT_2, sT_3, sT_4, sT_5, sT_6, sT_7, sT_8, sT_9, sT_10, sT_11, sT_12, sT_13, sT_14, sR_2_1, sR_2_2, sR_2_3, sR_2_4, sR_2_5, sR_2_6, sR_2_7, sR_2_8, sR_2_9, sR_2_10, sR_2_11, sR_2_12, sT_15, sT_16, sT_17, sT_18, sT_19, sT_20, sT_21, sT_22, sT_23, sR_15_1, sR_15_2, sR_15_3, sR_15_4, sR_15_5, sR_15_6, sR_15_7, sR_15_8, sT_24, sT_25, sT_26, sT_27, sT_28, sT_29, sR_24_1, sR_24_2, sR_24_3, sR_24_4, sR_24_5, sT_71, sT_72, sR_71_0, sR_71_1, sR_71_2, sR_71_3, sR_71_4, sT_73, sT_74, sT_75, sR_73_0, sR_73_1, sR_73_2, sR_73_3, sR_73_4, sR_73_5, sT_84, sT_85, sT_86, sT_87, sR_84_0, sR_84_1, sR_84_2, sR_84_3, sR_84_4, sR_84_5, sT_88, sT_89, sR_88_0, sT_90, sT_91, sR_90_0, e1', e2, nI_0]
    | false =>
      have hn : n ≠ 0 := fun q => by
        have := hb4.mpr q
        cases this
      have hgt : ((0 : Int32) < nI n) = True := eq_true (by
        rw [show (0 : Int32) = nI 0 from rfl, nI_ltI (by omega) (by omega)]
        omega)
      simp (disch := first | assumption | omega) [wa_2, j_meth, j_out, j_rok, j_pad, lg_sl, s_seq_w, isN_inl, isN_inr, s_if, jb, x_c, x_iloc, x_aloc, x_lloc, x_bin, x_un, o_add, o_sub, o_mul, o_and, o_or, o_xor, o_shl, o_shr, o_ushr, o_max, o_min, o_i2b, o_i2c, o_i2l, o_l2i, x_fld, j_fget, x_idx, j_aget, x_len, j_alen, x_ofb, x_ite, xs_nil, xs_cons, x_callv, x_calls, s_callv, s_calls, j_recv, j_ret, j_retv, b_cmp, b_and, b_or, b_not, b_ofi, b_ite, b_true, s_skip, s_set, j_ty, j_lset, j_kill, s_inc, s_fput, j_fput, s_fop, s_aput, j_aput, j_nar, s_aop, s_ret, s_retv, s_go, s_pop, x_linc, x_finc, Value.category, if_icmp.holds, List.flatMap_cons, List.flatMap_nil, List.length_cons, List.length_append, List.length_nil, List.set_cons_succ, List.set_cons_zero, List.getElem?_cons_succ, List.getElem?_cons_zero, List.replicate, ite_and', ite_or', ite_int', nI_leI, nI_ltI, nI_eq, nI_add, nI_1, pk_mul, nI_clamp, n_in', nI_pos', nI_pos, n_m1e, n_01, n_10, sT_1, sR_1_0, sR_1_1, sR_1_2, sR_1_3, sR_1_4, sR_1_5, sR_1_6, sR_1_7, sR_1_8, sR_1_9, sT_2, sT_3, sT_4, sT_5, sT_6, sT_7, sT_8, sT_9, sT_10, sT_11, sT_12, sT_13, sT_14, sR_2_1, sR_2_2, sR_2_3, sR_2_4, sR_2_5, sR_2_6, sR_2_7, sR_2_8, sR_2_9, sR_2_10, sR_2_11, sR_2_12, sT_15, sT_16, sT_17, sT_18, sT_19, sT_20, sT_21, sT_22, sT_23, sR_15_1, sR_15_2, sR_15_3, sR_15_4, sR_15_5, sR_15_6, sR_15_7, sR_15_8, sT_24, sT_25, sT_26, sT_27, sT_28, sT_29, sR_24_1, sR_24_2, sR_24_3, sR_24_4, sR_24_5, sT_71, sT_72, sR_71_0, sR_71_1, sR_71_2, sR_71_3, sR_71_4, sT_73, sT_74, sT_75, sR_73_0, sR_73_1, sR_73_2, sR_73_3, sR_73_4, sR_73_5, sT_84, sT_85, sT_86, sT_87, sR_84_0, sR_84_1, sR_84_2, sR_84_3, sR_84_4, sR_84_5, sT_88, sT_89, sR_88_0, sT_90, sT_91, sR_90_0, e1', e2, hgt]
      rfl
