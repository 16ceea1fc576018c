/-! judge -/
theorem e_S_tellTwo {h : jHp} (hs : Shape h) (a b : Int32) : ∃ h', f_S_tellTwo [.ref 1, .int a, .int b] h = some (none, h') ∧ Fr W90 h h' ∧ CRw [a, b] h' := by
  obtain ⟨h1, e1, f1, c1⟩ := e_R_empty hs
  have hs1 := Fr_shape hs f1
  obtain ⟨h2, e2, f2, c2⟩ := e_R_add hs1 c1 (by decide) a
  have hs2 := Fr_shape hs1 f2
  obtain ⟨h3, e3, f3, c3⟩ := e_R_add hs2 c2 (by simp) b
  refine ⟨h3, ?_, Fr_trans f1 (Fr_trans f2 f3), c3⟩
  have hs3 := Fr_shape hs2 f3
  simp (disch := first | assumption | omega) [f_S_tellTwo, body_S_tellTwo, j_meth, j_out, j_rok, j_pad, lg_sl, s_seq_w, isN_inl, isN_inr, s_if, jb, x_c, x_iloc, x_aloc, x_lloc, x_bin, x_un, o_add, o_sub, o_mul, o_and, o_or, o_xor, o_shl, o_shr, o_ushr, o_max, o_min, o_i2b, o_i2c, o_i2l, o_l2i, x_fld, j_fget, x_idx, j_aget, x_len, j_alen, x_ofb, x_ite, xs_nil, xs_cons, x_callv, x_calls, s_callv, s_calls, j_recv, j_ret, j_retv, b_cmp, b_and, b_or, b_not, b_ofi, b_ite, b_true, s_skip, s_set, j_ty, j_lset, j_kill, s_inc, s_fput, j_fput, s_fop, s_aput, j_aput, j_nar, s_aop, s_ret, s_retv, s_go, s_pop, x_linc, x_finc, Value.category, if_icmp.holds, List.flatMap_cons, List.flatMap_nil, List.length_cons, List.length_append, List.length_nil, List.set_cons_succ, List.set_cons_zero, List.getElem?_cons_succ, List.getElem?_cons_zero, List.replicate, ite_and', ite_or', ite_int', nI_leI, nI_ltI, nI_eq, nI_add, nI_1, pk_mul, nI_clamp, n_in', nI_pos', nI_pos, n_m1e, n_01, n_10, sT_1, sR_1_0, sR_1_1, sR_1_2, sR_1_3, sR_1_4, sR_1_5, sR_1_6, sR_1_7, sR_1_8, sR_1_9, sT_2, sT_3, sT_4, sT_5, sT_6, sT_7, sT_8, sT_9, sT_10, sT_11, sT_12, sT_13, sT_14, sR_2_1, sR_2_2, sR_2_3, sR_2_4, sR_2_5, sR_2_6, sR_2_7, sR_2_8, sR_2_9, sR_2_10, sR_2_11, sR_2_12, sT_15, sT_16, sT_17, sT_18, sT_19, sT_20, sT_21, sT_22, sT_23, sR_15_1, sR_15_2, sR_15_3, sR_15_4, sR_15_5, sR_15_6, sR_15_7, sR_15_8, sT_24, sT_25, sT_26, sT_27, sT_28, sT_29, sR_24_1, sR_24_2, sR_24_3, sR_24_4, sR_24_5, sT_71, sT_72, sR_71_0, sR_71_1, sR_71_2, sR_71_3, sR_71_4, sT_73, sT_74, sT_75, sR_73_0, sR_73_1, sR_73_2, sR_73_3, sR_73_4, sR_73_5, sT_84, sT_85, sT_86, sT_87, sR_84_0, sR_84_1, sR_84_2, sR_84_3, sR_84_4, sR_84_5, sT_88, sT_89, sR_88_0, sT_90, sT_91, sR_90_0, e1, e2, e3]
theorem bk3_ok {A : AS} (w : WF A) {S : Nat} (hf : (sF3 A S).isNone = true) : fst1 (fun f => sTk A f (S ||| sWt A S) != S &&& sOff A f) (aNo A) = sBk3 A S := by
  unfold sBk3
  refine (fst1_congr fun f hf' => ?_).symm
  have h3 := fst1_all.mp hf f hf'
  rw [sTk_off w] at h3
  exact brk_iff w (by simpa using h3)
def jOk (A : AS) (tx : List Nat) (rw : List Int32) (h : jHp) (h' : jHp) (rw' : List Int32) : Prop := RC A tx rw' h' ∧ FC h h'
theorem W90_ok {a j : Nat} (h : W90 a j) : okW a j := by
  rcases h with ⟨q, -⟩ | q
  · exact Or.inr (Or.inr (Or.inr (Or.inl q)))
  · exact Or.inr (Or.inr (Or.inr (Or.inr q)))
theorem Wrd_ok {a j : Nat} (h : Wrd a j) : okW a j := by
  rcases h with q | q
  · exact Or.inl q
  · exact Or.inr (Or.inl (by omega))
theorem DK_90 {A : AS} {ca bl : Nat → Nat} {h h' : jHp} (d : DK A ca bl h) (f : Fr W90 h h') : DK A ca bl h' := DK_fr d f (fun a j q => okW_cC (W90_ok q)) fun a j k hk q z => by
  have := Wdk_lt hk z
  unfold W90 at q
  omega
theorem o_S_judge {A : AS} {tx : List Nat} {rw : List Int32} {h : jHp} (r : RC A tx rw h) (x : Int32) : ∃ h', f_S_judge [.ref 1, .int x] h = some (some (.int (vJudge A rw x).1), h') ∧ RC A tx (vJudge A rw x).2 h' ∧ FC h h' := by
  have r0 := r
  obtain ⟨mk, ⟨ca, bl, d, sp⟩, c11, ct, cr, cs⟩ := r
  have hs := mk.1.1
  have w := mk.1.2.1
  have cb := mk.1.2.2.1
  have hno := w.2.1
  have hp := p20 w
  have ex := e_B_hasSet hs w cb x
  have h10 : ((1 : Int32) = 0) = False := by decide
  unfold vJudge
  by_cases hx : j_in x (2 ^ aNb A) = true
  case neg =>
    rw [if_neg hx] at ex ⊢
    refine ⟨h, ?_, r0, FC_refl h⟩
    simp (disch := first | assumption | omega) [f_S_judge, body_S_judge, j_meth, j_out, j_rok, j_pad, lg_sl, s_seq_w, isN_inl, isN_inr, s_if, jb, x_c, x_iloc, x_aloc, x_lloc, x_bin, x_un, o_add, o_sub, o_mul, o_and, o_or, o_xor, o_shl, o_shr, o_ushr, o_max, o_min, o_i2b, o_i2c, o_i2l, o_l2i, x_fld, j_fget, x_idx, j_aget, x_len, j_alen, x_ofb, x_ite, xs_nil, xs_cons, x_callv, x_calls, s_callv, s_calls, j_recv, j_ret, j_retv, b_cmp, b_and, b_or, b_not, b_ofi, b_ite, b_true, s_skip, s_set, j_ty, j_lset, j_kill, s_inc, s_fput, j_fput, s_fop, s_aput, j_aput, j_nar, s_aop, s_ret, s_retv, s_go, s_pop, x_linc, x_finc, Value.category, if_icmp.holds, List.flatMap_cons, List.flatMap_nil, List.length_cons, List.length_append, List.length_nil, List.set_cons_succ, List.set_cons_zero, List.getElem?_cons_succ, List.getElem?_cons_zero, List.replicate, ite_and', ite_or', ite_int', nI_leI, nI_ltI, nI_eq, nI_add, nI_1, pk_mul, nI_clamp, n_in', nI_pos', nI_pos, n_m1e, n_01, n_10, sT_1, sR_1_0, sR_1_1, sR_1_2, sR_1_3, sR_1_4, sR_1_5, sR_1_6, sR_1_7, sR_1_8, sR_1_9, sT_2, sT_3, sT_4, sT_5, sT_6, sT_7, sT_8, sT_9, sT_10, sT_11, sT_12, sT_13, sT_14, sR_2_1, sR_2_2, sR_2_3, sR_2_4, sR_2_5, sR_2_6, sR_2_7, sR_2_8, sR_2_9, sR_2_10, sR_2_11, sR_2_12, sT_15, sT_16, sT_17, sT_18, sT_19, sT_20, sT_21, sT_22, sT_23, sR_15_1, sR_15_2, sR_15_3, sR_15_4, sR_15_5, sR_15_6, sR_15_7, sR_15_8, sT_24, sT_25, sT_26, sT_27, sT_28, sT_29, sR_24_1, sR_24_2, sR_24_3, sR_24_4, sR_24_5, sT_71, sT_72, sR_71_0, sR_71_1, sR_71_2, sR_71_3, sR_71_4, sT_73, sT_74, sT_75, sR_73_0, sR_73_1, sR_73_2, sR_73_3, sR_73_4, sR_73_5, sT_84, sT_85, sT_86, sT_87, sR_84_0, sR_84_1, sR_84_2, sR_84_3, sR_84_4, sR_84_5, sT_88, sT_89, sR_88_0, sT_90, sT_91, sR_90_0, ex]
  rw [if_pos hx] at ex ⊢
  obtain ⟨S, hS, rfl⟩ := j_in_ex hx (by omega)
  rw [nI_clamp (by omega)]
  have em := e_Ma_isMatching mk hS
  unfold sJdg
  by_cases hm : popN 32 (sPpl A S) = popN 32 S
  case neg =>
    rw [if_neg hm] at em
    rw [if_pos hm]
    refine ⟨h, ?_, r0, FC_refl h⟩
    simp (disch := first | assumption | omega) [f_S_judge, body_S_judge, j_meth, j_out, j_rok, j_pad, lg_sl, s_seq_w, isN_inl, isN_inr, s_if, jb, x_c, x_iloc, x_aloc, x_lloc, x_bin, x_un, o_add, o_sub, o_mul, o_and, o_or, o_xor, o_shl, o_shr, o_ushr, o_max, o_min, o_i2b, o_i2c, o_i2l, o_l2i, x_fld, j_fget, x_idx, j_aget, x_len, j_alen, x_ofb, x_ite, xs_nil, xs_cons, x_callv, x_calls, s_callv, s_calls, j_recv, j_ret, j_retv, b_cmp, b_and, b_or, b_not, b_ofi, b_ite, b_true, s_skip, s_set, j_ty, j_lset, j_kill, s_inc, s_fput, j_fput, s_fop, s_aput, j_aput, j_nar, s_aop, s_ret, s_retv, s_go, s_pop, x_linc, x_finc, Value.category, if_icmp.holds, List.flatMap_cons, List.flatMap_nil, List.length_cons, List.length_append, List.length_nil, List.set_cons_succ, List.set_cons_zero, List.getElem?_cons_succ, List.getElem?_cons_zero, List.replicate, ite_and', ite_or', ite_int', nI_leI, nI_ltI, nI_eq, nI_add, nI_1, pk_mul, nI_clamp, n_in', nI_pos', nI_pos, n_m1e, n_01, n_10, sT_1, sR_1_0, sR_1_1, sR_1_2, sR_1_3, sR_1_4, sR_1_5, sR_1_6, sR_1_7, sR_1_8, sR_1_9, sT_2, sT_3, sT_4, sT_5, sT_6, sT_7, sT_8, sT_9, sT_10, sT_11, sT_12, sT_13, sT_14, sR_2_1, sR_2_2, sR_2_3, sR_2_4, sR_2_5, sR_2_6, sR_2_7, sR_2_8, sR_2_9, sR_2_10, sR_2_11, sR_2_12, sT_15, sT_16, sT_17, sT_18, sT_19, sT_20, sT_21, sT_22, sT_23, sR_15_1, sR_15_2, sR_15_3, sR_15_4, sR_15_5, sR_15_6, sR_15_7, sR_15_8, sT_24, sT_25, sT_26, sT_27, sT_28, sT_29, sR_24_1, sR_24_2, sR_24_3, sR_24_4, sR_24_5, sT_71, sT_72, sR_71_0, sR_71_1, sR_71_2, sR_71_3, sR_71_4, sT_73, sT_74, sT_75, sR_73_0, sR_73_1, sR_73_2, sR_73_3, sR_73_4, sR_73_5, sT_84, sT_85, sT_86, sT_87, sR_84_0, sR_84_1, sR_84_2, sR_84_3, sR_84_4, sR_84_5, sT_88, sT_89, sR_88_0, sT_90, sT_91, sR_90_0, ex, h10, em]
  have hmm := (sMat_pop w hS).mp hm
  rw [if_pos hm] at em
  have hm' : ¬ popN 32 (sPpl A S) ≠ popN 32 S := fun q => q hm
  rw [if_neg hm']
  obtain ⟨h1, bl1, e1, f1, mv1, d1⟩ := e_Ma_readyWithoutMore mk d
  have hs1 := mv1.1.1.1
  have cb1 := mv1.1.1.2.2.1
  have hA : aMv A (fun _ => 0) = A := aMv_0 A _ fun _ => rfl
  have es := e_B_slotsOf hs1 w cb1 (S := S) (by omega)
  have ef := e_Ma_isFree mv1 hS hmm
  rw [hA] at ef
  have cr1 : CRw rw h1 := CRw_fr cr f1 fun a j q => by
    rcases q with z | z
    · have := Wds_lt z; omega
    · omega
  have fin1 := RC_mk r0 d sp f1 (fun a j q => Wrd_ok q) d1 cr1
  by_cases hfr : sFree A S = false
  · rw [hfr] at ef
    rw [if_pos hfr]
    refine ⟨h1, ?_, fin1⟩
    simp (disch := first | assumption | omega) [f_S_judge, body_S_judge, j_meth, j_out, j_rok, j_pad, lg_sl, s_seq_w, isN_inl, isN_inr, s_if, jb, x_c, x_iloc, x_aloc, x_lloc, x_bin, x_un, o_add, o_sub, o_mul, o_and, o_or, o_xor, o_shl, o_shr, o_ushr, o_max, o_min, o_i2b, o_i2c, o_i2l, o_l2i, x_fld, j_fget, x_idx, j_aget, x_len, j_alen, x_ofb, x_ite, xs_nil, xs_cons, x_callv, x_calls, s_callv, s_calls, j_recv, j_ret, j_retv, b_cmp, b_and, b_or, b_not, b_ofi, b_ite, b_true, s_skip, s_set, j_ty, j_lset, j_kill, s_inc, s_fput, j_fput, s_fop, s_aput, j_aput, j_nar, s_aop, s_ret, s_retv, s_go, s_pop, x_linc, x_finc, Value.category, if_icmp.holds, List.flatMap_cons, List.flatMap_nil, List.length_cons, List.length_append, List.length_nil, List.set_cons_succ, List.set_cons_zero, List.getElem?_cons_succ, List.getElem?_cons_zero, List.replicate, ite_and', ite_or', ite_int', nI_leI, nI_ltI, nI_eq, nI_add, nI_1, pk_mul, nI_clamp, n_in', nI_pos', nI_pos, n_m1e, n_01, n_10, sT_1, sR_1_0, sR_1_1, sR_1_2, sR_1_3, sR_1_4, sR_1_5, sR_1_6, sR_1_7, sR_1_8, sR_1_9, sT_2, sT_3, sT_4, sT_5, sT_6, sT_7, sT_8, sT_9, sT_10, sT_11, sT_12, sT_13, sT_14, sR_2_1, sR_2_2, sR_2_3, sR_2_4, sR_2_5, sR_2_6, sR_2_7, sR_2_8, sR_2_9, sR_2_10, sR_2_11, sR_2_12, sT_15, sT_16, sT_17, sT_18, sT_19, sT_20, sT_21, sT_22, sT_23, sR_15_1, sR_15_2, sR_15_3, sR_15_4, sR_15_5, sR_15_6, sR_15_7, sR_15_8, sT_24, sT_25, sT_26, sT_27, sT_28, sT_29, sR_24_1, sR_24_2, sR_24_3, sR_24_4, sR_24_5, sT_71, sT_72, sR_71_0, sR_71_1, sR_71_2, sR_71_3, sR_71_4, sT_73, sT_74, sT_75, sR_73_0, sR_73_1, sR_73_2, sR_73_3, sR_73_4, sR_73_5, sT_84, sT_85, sT_86, sT_87, sR_84_0, sR_84_1, sR_84_2, sR_84_3, sR_84_4, sR_84_5, sT_88, sT_89, sR_88_0, sT_90, sT_91, sR_90_0, ex, h10, em, e1, es, ef]
  have hfr' : sFree A S = true := by simpa using hfr
  rw [hfr'] at ef
  rw [if_neg hfr]
  unfold sFree at hfr'
  rw [Bool.and_eq_true, Bool.and_eq_true] at hfr'
  obtain ⟨⟨hf1, hf2⟩, hf3⟩ := hfr'
  have ew := e_Ma_wanted mv1.1 hS hmm hf1
  have eo := e_Ma_breakingOffice mv1 S (sWt A S)
  rw [hA, bk3_ok w hf3] at eo
  have slS := slM_lt w S
  cases hb3 : sBk3 A S with
  | some o =>
    rw [hb3, oI_s] at eo
    have ho := fst1_lt hb3
    have hso := (fst1_some hb3).2.1
    have el := e_Ma_leastBreaking mv1 (o := o) (by omega) S (sWt A S)
    have hlb := lb_fst w (fun _ => 0) o S (sWt A S)
    rw [hA] at hlb
    have hneo : (nI o = -1) = False := n_m1e (by omega)
    cases hfl : fst1 (lbP A (fun _ => 0) o (prt o (slM A S)) (prt o (slM A (S ||| sWt A S)))) (prt o (slM A (S ||| sWt A S)) + 1) with
    | none =>
      rw [hfl] at hlb
      rw [hlb] at hso
      cases hso
    | some P =>
      rw [hfl] at hlb el
      simp only [Option.getD_some, Option.map_some] at hlb el
      have hPl := fst1_lt hfl
      have hR := prt_slM_lt w o (S ||| sWt A S)
      have h8 := nOf_le w o
      have hp8 : 2 ^ nOf A o ≤ 256 := Nat.pow_le_pow_right (n := 2) (by decide) h8
      have ep := e_B_setOfPart mv1.1.1 (f := o) (P := P) (by omega) (by omega)
      obtain ⟨h2, e2, f2, c2⟩ := e_S_tellTwo hs1 (nI o) (nI (pSet A o P))
      have hs2 := Fr_shape hs1 f2
      have fin2 := RC_mk fin1.1 d1 ⟨by rw [f1.1.2.1]; exact sp.1, sp.2⟩ f2 (fun a j q => W90_ok q) (DK_90 d1 f2) c2
      refine ⟨h2, ?_, ?_⟩
      · simp only
        clear d d1 mv1 cr1 fin1 fin2 hso hlb hfl hPl
        generalize pSet A o P = PS at *
        simp (disch := first | assumption | omega) [f_S_judge, body_S_judge, j_meth, j_out, j_rok, j_pad, lg_sl, s_seq_w, isN_inl, isN_inr, s_if, jb, x_c, x_iloc, x_aloc, x_lloc, x_bin, x_un, o_add, o_sub, o_mul, o_and, o_or, o_xor, o_shl, o_shr, o_ushr, o_max, o_min, o_i2b, o_i2c, o_i2l, o_l2i, x_fld, j_fget, x_idx, j_aget, x_len, j_alen, x_ofb, x_ite, xs_nil, xs_cons, x_callv, x_calls, s_callv, s_calls, j_recv, j_ret, j_retv, b_cmp, b_and, b_or, b_not, b_ofi, b_ite, b_true, s_skip, s_set, j_ty, j_lset, j_kill, s_inc, s_fput, j_fput, s_fop, s_aput, j_aput, j_nar, s_aop, s_ret, s_retv, s_go, s_pop, x_linc, x_finc, Value.category, if_icmp.holds, List.flatMap_cons, List.flatMap_nil, List.length_cons, List.length_append, List.length_nil, List.set_cons_succ, List.set_cons_zero, List.getElem?_cons_succ, List.getElem?_cons_zero, List.replicate, ite_and', ite_or', ite_int', nI_leI, nI_ltI, nI_eq, nI_add, nI_1, pk_mul, nI_clamp, n_in', nI_pos', nI_pos, n_m1e, n_01, n_10, sT_1, sR_1_0, sR_1_1, sR_1_2, sR_1_3, sR_1_4, sR_1_5, sR_1_6, sR_1_7, sR_1_8, sR_1_9, sT_2, sT_3, sT_4, sT_5, sT_6, sT_7, sT_8, sT_9, sT_10, sT_11, sT_12, sT_13, sT_14, sR_2_1, sR_2_2, sR_2_3, sR_2_4, sR_2_5, sR_2_6, sR_2_7, sR_2_8, sR_2_9, sR_2_10, sR_2_11, sR_2_12, sT_15, sT_16, sT_17, sT_18, sT_19, sT_20, sT_21, sT_22, sT_23, sR_15_1, sR_15_2, sR_15_3, sR_15_4, sR_15_5, sR_15_6, sR_15_7, sR_15_8, sT_24, sT_25, sT_26, sT_27, sT_28, sT_29, sR_24_1, sR_24_2, sR_24_3, sR_24_4, sR_24_5, sT_71, sT_72, sR_71_0, sR_71_1, sR_71_2, sR_71_3, sR_71_4, sT_73, sT_74, sT_75, sR_73_0, sR_73_1, sR_73_2, sR_73_3, sR_73_4, sR_73_5, sT_84, sT_85, sT_86, sT_87, sR_84_0, sR_84_1, sR_84_2, sR_84_3, sR_84_4, sR_84_5, sT_88, sT_89, sR_88_0, sT_90, sT_91, sR_90_0, ex, h10, em, e1, es, ef, ew, eo, hneo, el, ep, e2]
      · simp only [hlb, Option.getD_some]
        exact ⟨fin2.1, FC_trans fin1.2 fin2.2⟩
  | none =>
    rw [hb3, oI_n] at eo
    simp only
    have hc2 := w.2.2.2.2.1.1
    have c24 := mv1.1.2.1
    have hL := loop_wp (lb := 1) (lc := 2) (c := lc_S_judge_1) (b := lb_S_judge_1) (u := lu_S_judge_1) (aNc A)
      (fun c st => ∃ v, st = ([.ref 1, .int (nI S), .int (nI (slM A S)), .int (nI (slM A (sWt A S))), .int (-1), .int (nI c), v], h1) ∧ ∀ m, m < c → (sBrP A S m).isSome = false)
      (fun q => (∃ c k K h2, q = (.inr (some (.int (nI 4))), (K, h2)) ∧ sBk4 A S = some c ∧ sBrP A S c = some k ∧ Fr W90 h1 h2 ∧ CRw [nI c, nI k] h2) ∨ (∃ K, q = (.inl 0, (K, h1)) ∧ sBk4 A S = none))
      ?_ ?_ ([.ref 1, .int (nI S), .int (nI (slM A S)), .int (nI (slM A (sWt A S))), .int (-1), .int (nI 0), .null], h1) ⟨_, rfl, fun m hm => by omega⟩
    · obtain ⟨q, e, ⟨c, k, K, h2, rfl, b4, bp, f2, c2⟩ | ⟨K, rfl, b4⟩⟩ := hL
      · have fin2 := RC_mk fin1.1 d1 ⟨by rw [f1.1.2.1]; exact sp.1, sp.2⟩ f2 (fun a j q => W90_ok q) (DK_90 d1 f2) c2
        refine ⟨h2, ?_, ?_⟩
        · rw [b4]
          simp only [nI_0] at e
          clear d d1 mv1 cr1 fin1 fin2
          simp (disch := first | assumption | omega) [f_S_judge, body_S_judge, j_meth, j_out, j_rok, j_pad, lg_sl, s_seq_w, isN_inl, isN_inr, s_if, jb, x_c, x_iloc, x_aloc, x_lloc, x_bin, x_un, o_add, o_sub, o_mul, o_and, o_or, o_xor, o_shl, o_shr, o_ushr, o_max, o_min, o_i2b, o_i2c, o_i2l, o_l2i, x_fld, j_fget, x_idx, j_aget, x_len, j_alen, x_ofb, x_ite, xs_nil, xs_cons, x_callv, x_calls, s_callv, s_calls, j_recv, j_ret, j_retv, b_cmp, b_and, b_or, b_not, b_ofi, b_ite, b_true, s_skip, s_set, j_ty, j_lset, j_kill, s_inc, s_fput, j_fput, s_fop, s_aput, j_aput, j_nar, s_aop, s_ret, s_retv, s_go, s_pop, x_linc, x_finc, Value.category, if_icmp.holds, List.flatMap_cons, List.flatMap_nil, List.length_cons, List.length_append, List.length_nil, List.set_cons_succ, List.set_cons_zero, List.getElem?_cons_succ, List.getElem?_cons_zero, List.replicate, ite_and', ite_or', ite_int', nI_leI, nI_ltI, nI_eq, nI_add, nI_1, pk_mul, nI_clamp, n_in', nI_pos', nI_pos, n_m1e, n_01, n_10, sT_1, sR_1_0, sR_1_1, sR_1_2, sR_1_3, sR_1_4, sR_1_5, sR_1_6, sR_1_7, sR_1_8, sR_1_9, sT_2, sT_3, sT_4, sT_5, sT_6, sT_7, sT_8, sT_9, sT_10, sT_11, sT_12, sT_13, sT_14, sR_2_1, sR_2_2, sR_2_3, sR_2_4, sR_2_5, sR_2_6, sR_2_7, sR_2_8, sR_2_9, sR_2_10, sR_2_11, sR_2_12, sT_15, sT_16, sT_17, sT_18, sT_19, sT_20, sT_21, sT_22, sT_23, sR_15_1, sR_15_2, sR_15_3, sR_15_4, sR_15_5, sR_15_6, sR_15_7, sR_15_8, sT_24, sT_25, sT_26, sT_27, sT_28, sT_29, sR_24_1, sR_24_2, sR_24_3, sR_24_4, sR_24_5, sT_71, sT_72, sR_71_0, sR_71_1, sR_71_2, sR_71_3, sR_71_4, sT_73, sT_74, sT_75, sR_73_0, sR_73_1, sR_73_2, sR_73_3, sR_73_4, sR_73_5, sT_84, sT_85, sT_86, sT_87, sR_84_0, sR_84_1, sR_84_2, sR_84_3, sR_84_4, sR_84_5, sT_88, sT_89, sR_88_0, sT_90, sT_91, sR_90_0, ex, h10, em, e1, es, ef, ew, eo, nI_0, e]
        · rw [b4]
          simp only [bp, Option.getD_some]
          exact ⟨fin2.1, FC_trans fin1.2 fin2.2⟩
      · refine ⟨h1, ?_, ?_⟩
        · rw [b4]
          simp only [nI_0] at e
          clear d d1 mv1 cr1 fin1
          simp (disch := first | assumption | omega) [f_S_judge, body_S_judge, j_meth, j_out, j_rok, j_pad, lg_sl, s_seq_w, isN_inl, isN_inr, s_if, jb, x_c, x_iloc, x_aloc, x_lloc, x_bin, x_un, o_add, o_sub, o_mul, o_and, o_or, o_xor, o_shl, o_shr, o_ushr, o_max, o_min, o_i2b, o_i2c, o_i2l, o_l2i, x_fld, j_fget, x_idx, j_aget, x_len, j_alen, x_ofb, x_ite, xs_nil, xs_cons, x_callv, x_calls, s_callv, s_calls, j_recv, j_ret, j_retv, b_cmp, b_and, b_or, b_not, b_ofi, b_ite, b_true, s_skip, s_set, j_ty, j_lset, j_kill, s_inc, s_fput, j_fput, s_fop, s_aput, j_aput, j_nar, s_aop, s_ret, s_retv, s_go, s_pop, x_linc, x_finc, Value.category, if_icmp.holds, List.flatMap_cons, List.flatMap_nil, List.length_cons, List.length_append, List.length_nil, List.set_cons_succ, List.set_cons_zero, List.getElem?_cons_succ, List.getElem?_cons_zero, List.replicate, ite_and', ite_or', ite_int', nI_leI, nI_ltI, nI_eq, nI_add, nI_1, pk_mul, nI_clamp, n_in', nI_pos', nI_pos, n_m1e, n_01, n_10, sT_1, sR_1_0, sR_1_1, sR_1_2, sR_1_3, sR_1_4, sR_1_5, sR_1_6, sR_1_7, sR_1_8, sR_1_9, sT_2, sT_3, sT_4, sT_5, sT_6, sT_7, sT_8, sT_9, sT_10, sT_11, sT_12, sT_13, sT_14, sR_2_1, sR_2_2, sR_2_3, sR_2_4, sR_2_5, sR_2_6, sR_2_7, sR_2_8, sR_2_9, sR_2_10, sR_2_11, sR_2_12, sT_15, sT_16, sT_17, sT_18, sT_19, sT_20, sT_21, sT_22, sT_23, sR_15_1, sR_15_2, sR_15_3, sR_15_4, sR_15_5, sR_15_6, sR_15_7, sR_15_8, sT_24, sT_25, sT_26, sT_27, sT_28, sT_29, sR_24_1, sR_24_2, sR_24_3, sR_24_4, sR_24_5, sT_71, sT_72, sR_71_0, sR_71_1, sR_71_2, sR_71_3, sR_71_4, sT_73, sT_74, sT_75, sR_73_0, sR_73_1, sR_73_2, sR_73_3, sR_73_4, sR_73_5, sT_84, sT_85, sT_86, sT_87, sR_84_0, sR_84_1, sR_84_2, sR_84_3, sR_84_4, sR_84_5, sT_88, sT_89, sR_88_0, sT_90, sT_91, sR_90_0, ex, h10, em, e1, es, ef, ew, eo, nI_0, e]
        · rw [b4]
          exact fin1
    · rintro c st hc ⟨v, rfl, hall⟩
      have eb := e_Ma_breakingPair mv1 hc hS hmm
      rw [hA] at eb
      cases hbp : sBrP A S c with
      | none =>
        left
        rw [hbp, oI_n] at eb
        refine ⟨([.ref 1, .int (nI S), .int (nI (slM A S)), .int (nI (slM A (sWt A S))), .int (-1), .int (nI (c + 1)), .int (-1)], h1), ?_, _, rfl, fun m hm => ?_⟩
        · clear d d1 mv1 cr1 fin1 hall
          simp (disch := first | assumption | omega) [lstp, lc_S_judge_1, lb_S_judge_1, lu_S_judge_1, j_meth, j_out, j_rok, j_pad, lg_sl, s_seq_w, isN_inl, isN_inr, s_if, jb, x_c, x_iloc, x_aloc, x_lloc, x_bin, x_un, o_add, o_sub, o_mul, o_and, o_or, o_xor, o_shl, o_shr, o_ushr, o_max, o_min, o_i2b, o_i2c, o_i2l, o_l2i, x_fld, j_fget, x_idx, j_aget, x_len, j_alen, x_ofb, x_ite, xs_nil, xs_cons, x_callv, x_calls, s_callv, s_calls, j_recv, j_ret, j_retv, b_cmp, b_and, b_or, b_not, b_ofi, b_ite, b_true, s_skip, s_set, j_ty, j_lset, j_kill, s_inc, s_fput, j_fput, s_fop, s_aput, j_aput, j_nar, s_aop, s_ret, s_retv, s_go, s_pop, x_linc, x_finc, Value.category, if_icmp.holds, List.flatMap_cons, List.flatMap_nil, List.length_cons, List.length_append, List.length_nil, List.set_cons_succ, List.set_cons_zero, List.getElem?_cons_succ, List.getElem?_cons_zero, List.replicate, ite_and', ite_or', ite_int', nI_leI, nI_ltI, nI_eq, nI_add, nI_1, pk_mul, nI_clamp, n_in', nI_pos', nI_pos, n_m1e, n_01, n_10, sT_1, sR_1_0, sR_1_1, sR_1_2, sR_1_3, sR_1_4, sR_1_5, sR_1_6, sR_1_7, sR_1_8, sR_1_9, sT_2, sT_3, sT_4, sT_5, sT_6, sT_7, sT_8, sT_9, sT_10, sT_11, sT_12, sT_13, sT_14, sR_2_1, sR_2_2, sR_2_3, sR_2_4, sR_2_5, sR_2_6, sR_2_7, sR_2_8, sR_2_9, sR_2_10, sR_2_11, sR_2_12, sT_15, sT_16, sT_17, sT_18, sT_19, sT_20, sT_21, sT_22, sT_23, sR_15_1, sR_15_2, sR_15_3, sR_15_4, sR_15_5, sR_15_6, sR_15_7, sR_15_8, sT_24, sT_25, sT_26, sT_27, sT_28, sT_29, sR_24_1, sR_24_2, sR_24_3, sR_24_4, sR_24_5, sT_71, sT_72, sR_71_0, sR_71_1, sR_71_2, sR_71_3, sR_71_4, sT_73, sT_74, sT_75, sR_73_0, sR_73_1, sR_73_2, sR_73_3, sR_73_4, sR_73_5, sT_84, sT_85, sT_86, sT_87, sR_84_0, sR_84_1, sR_84_2, sR_84_3, sR_84_4, sR_84_5, sT_88, sT_89, sR_88_0, sT_90, sT_91, sR_90_0, c24, hc, eb]
        · by_cases e : m = c
          · rw [e, hbp]; rfl
          · exact hall m (by omega)
      | some k =>
        right
        rw [hbp, oI_s] at eb
        have hk9 : k < 9 := by
          have h1 := fst1_lt hbp
          cases hr : sRkc A S c with
          | none => rw [hr] at h1; simp at h1
          | some r =>
            rw [hr] at h1
            have := sRkc_lt w hr
            simp at h1
            omega
        have hne : (nI k = -1) = False := n_m1e (by omega)
        obtain ⟨h2, e2, f2, c2⟩ := e_S_tellTwo hs1 (nI c) (nI k)
        have hs2 := Fr_shape hs1 f2
        have hb4 : sBk4 A S = some c := fst1_of hc (by rw [hbp]; rfl) hall
        refine ⟨(.inr (some (.int (nI 4))), ([.ref 1, .int (nI S), .int (nI (slM A S)), .int (nI (slM A (sWt A S))), .int (-1), .int (nI c), .int (nI k)], h2)), ?_, Or.inl ⟨c, k, _, h2, rfl, hb4, hbp, f2, c2⟩⟩
        clear d d1 mv1 cr1 fin1 hall
        simp (disch := first | assumption | omega) [lstp, lc_S_judge_1, lb_S_judge_1, lu_S_judge_1, j_meth, j_out, j_rok, j_pad, lg_sl, s_seq_w, isN_inl, isN_inr, s_if, jb, x_c, x_iloc, x_aloc, x_lloc, x_bin, x_un, o_add, o_sub, o_mul, o_and, o_or, o_xor, o_shl, o_shr, o_ushr, o_max, o_min, o_i2b, o_i2c, o_i2l, o_l2i, x_fld, j_fget, x_idx, j_aget, x_len, j_alen, x_ofb, x_ite, xs_nil, xs_cons, x_callv, x_calls, s_callv, s_calls, j_recv, j_ret, j_retv, b_cmp, b_and, b_or, b_not, b_ofi, b_ite, b_true, s_skip, s_set, j_ty, j_lset, j_kill, s_inc, s_fput, j_fput, s_fop, s_aput, j_aput, j_nar, s_aop, s_ret, s_retv, s_go, s_pop, x_linc, x_finc, Value.category, if_icmp.holds, List.flatMap_cons, List.flatMap_nil, List.length_cons, List.length_append, List.length_nil, List.set_cons_succ, List.set_cons_zero, List.getElem?_cons_succ, List.getElem?_cons_zero, List.replicate, ite_and', ite_or', ite_int', nI_leI, nI_ltI, nI_eq, nI_add, nI_1, pk_mul, nI_clamp, n_in', nI_pos', nI_pos, n_m1e, n_01, n_10, sT_1, sR_1_0, sR_1_1, sR_1_2, sR_1_3, sR_1_4, sR_1_5, sR_1_6, sR_1_7, sR_1_8, sR_1_9, sT_2, sT_3, sT_4, sT_5, sT_6, sT_7, sT_8, sT_9, sT_10, sT_11, sT_12, sT_13, sT_14, sR_2_1, sR_2_2, sR_2_3, sR_2_4, sR_2_5, sR_2_6, sR_2_7, sR_2_8, sR_2_9, sR_2_10, sR_2_11, sR_2_12, sT_15, sT_16, sT_17, sT_18, sT_19, sT_20, sT_21, sT_22, sT_23, sR_15_1, sR_15_2, sR_15_3, sR_15_4, sR_15_5, sR_15_6, sR_15_7, sR_15_8, sT_24, sT_25, sT_26, sT_27, sT_28, sT_29, sR_24_1, sR_24_2, sR_24_3, sR_24_4, sR_24_5, sT_71, sT_72, sR_71_0, sR_71_1, sR_71_2, sR_71_3, sR_71_4, sT_73, sT_74, sT_75, sR_73_0, sR_73_1, sR_73_2, sR_73_3, sR_73_4, sR_73_5, sT_84, sT_85, sT_86, sT_87, sR_84_0, sR_84_1, sR_84_2, sR_84_3, sR_84_4, sR_84_5, sT_88, sT_89, sR_88_0, sT_90, sT_91, sR_90_0, c24, hc, eb, hne, e2]
    · rintro st ⟨v, rfl, hall⟩
      refine ⟨(.inl 0, ([.ref 1, .int (nI S), .int (nI (slM A S)), .int (nI (slM A (sWt A S))), .int (-1), .int (nI (aNc A)), v], h1)), ?_, Or.inr ⟨_, rfl, fst1_no hall⟩⟩
      clear d d1 mv1 cr1 fin1 hall
      simp (disch := first | assumption | omega) [lstp, lc_S_judge_1, lb_S_judge_1, lu_S_judge_1, j_meth, j_out, j_rok, j_pad, lg_sl, s_seq_w, isN_inl, isN_inr, s_if, jb, x_c, x_iloc, x_aloc, x_lloc, x_bin, x_un, o_add, o_sub, o_mul, o_and, o_or, o_xor, o_shl, o_shr, o_ushr, o_max, o_min, o_i2b, o_i2c, o_i2l, o_l2i, x_fld, j_fget, x_idx, j_aget, x_len, j_alen, x_ofb, x_ite, xs_nil, xs_cons, x_callv, x_calls, s_callv, s_calls, j_recv, j_ret, j_retv, b_cmp, b_and, b_or, b_not, b_ofi, b_ite, b_true, s_skip, s_set, j_ty, j_lset, j_kill, s_inc, s_fput, j_fput, s_fop, s_aput, j_aput, j_nar, s_aop, s_ret, s_retv, s_go, s_pop, x_linc, x_finc, Value.category, if_icmp.holds, List.flatMap_cons, List.flatMap_nil, List.length_cons, List.length_append, List.length_nil, List.set_cons_succ, List.set_cons_zero, List.getElem?_cons_succ, List.getElem?_cons_zero, List.replicate, ite_and', ite_or', ite_int', nI_leI, nI_ltI, nI_eq, nI_add, nI_1, pk_mul, nI_clamp, n_in', nI_pos', nI_pos, n_m1e, n_01, n_10, sT_1, sR_1_0, sR_1_1, sR_1_2, sR_1_3, sR_1_4, sR_1_5, sR_1_6, sR_1_7, sR_1_8, sR_1_9, sT_2, sT_3, sT_4, sT_5, sT_6, sT_7, sT_8, sT_9, sT_10, sT_11, sT_12, sT_13, sT_14, sR_2_1, sR_2_2, sR_2_3, sR_2_4, sR_2_5, sR_2_6, sR_2_7, sR_2_8, sR_2_9, sR_2_10, sR_2_11, sR_2_12, sT_15, sT_16, sT_17, sT_18, sT_19, sT_20, sT_21, sT_22, sT_23, sR_15_1, sR_15_2, sR_15_3, sR_15_4, sR_15_5, sR_15_6, sR_15_7, sR_15_8, sT_24, sT_25, sT_26, sT_27, sT_28, sT_29, sR_24_1, sR_24_2, sR_24_3, sR_24_4, sR_24_5, sT_71, sT_72, sR_71_0, sR_71_1, sR_71_2, sR_71_3, sR_71_4, sT_73, sT_74, sT_75, sR_73_0, sR_73_1, sR_73_2, sR_73_3, sR_73_4, sR_73_5, sT_84, sT_85, sT_86, sT_87, sR_84_0, sR_84_1, sR_84_2, sR_84_3, sR_84_4, sR_84_5, sT_88, sT_89, sR_88_0, sT_90, sT_91, sR_90_0, c24]
