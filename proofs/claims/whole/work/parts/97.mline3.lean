def pLn (tx : List Nat) (i : Nat) (C : CH) : Option CH × Nat :=
  if tg tx i = some 113 then (match pNum tx (i + 1) with
    | none => (none, i + 1)
    | some q => (some (q.1, C.2), q.2)) else
  if tg tx i = some 99 then (match pNum tx (i + 1) with
    | none => (none, i + 1)
    | some q => (some (C.1, some q.1, C.2.2), q.2)) else
  if tg tx i = some 114 then (match pKyA tx (i + 1) with
    | (none, j) => (none, j)
    | (some ks, j) => (some (C.1, C.2.1, ks, C.2.2.2), j)) else
  if tg tx i = some 107 then (match pKep tx (i + 1) with
    | (none, j) => (none, j)
    | (some m, j) => (some (C.1, C.2.1, C.2.2.1, cKeeps C ++ [m], C.2.2.2.2), j)) else
  if tg tx i = some 119 then (match pTwo tx 38 (i + 1) with
    | (none, j) => (none, j)
    | (some m, j) => (some (C.1, C.2.1, C.2.2.1, C.2.2.2.1, cBoths C ++ [m], C.2.2.2.2.2), j)) else
  if tg tx i = some 120 then (match pTwo tx 124 (i + 1) with
    | (none, j) => (none, j)
    | (some m, j) => (some (C.1, C.2.1, C.2.2.1, C.2.2.2.1, C.2.2.2.2.1, cNevers C ++ [m]), j)) else (none, i)
theorem ln_out {h : jHp} {b : Bool} {L : List Value} {h' : jHp} (e : body_M_line ([.ref 98, .null, .null], h) = some (.inr (some (.int (nI (if b then 1 else 0)))), (L, h'))) : f_M_line [.ref 98] h = some (some (.int (if b then 1 else 0)), h') := by
  cases b with
  | true => simp (disch := first | assumption | omega) [f_M_line, j_meth, j_out, j_rok, j_pad, lg_sl, s_seq_w, isN_inl, isN_inr, s_if, jb, x_c, x_iloc, x_aloc, x_lloc, x_bin, x_un, o_add, o_sub, o_mul, o_and, o_or, o_xor, o_shl, o_shr, o_ushr, o_max, o_min, o_i2b, o_i2c, o_i2l, o_l2i, x_fld, j_fget, x_idx, j_aget, x_len, j_alen, x_ofb, x_ite, xs_nil, xs_cons, x_callv, x_calls, s_callv, s_calls, j_recv, j_ret, j_retv, b_cmp, b_and, b_or, b_not, b_ofi, b_ite, b_true, s_skip, s_set, j_ty, j_lset, j_kill, s_inc, s_fput, j_fput, s_fop, s_aput, j_aput, j_nar, s_aop, s_ret, s_retv, s_go, s_pop, x_linc, x_finc, Value.category, if_icmp.holds, List.flatMap_cons, List.flatMap_nil, List.length_cons, List.length_append, List.length_nil, List.set_cons_succ, List.set_cons_zero, List.getElem?_cons_succ, List.getElem?_cons_zero, List.replicate, ite_and', ite_or', ite_int', nI_leI, nI_ltI, nI_eq, nI_add, nI_1, pk_mul, nI_clamp, n_in', nI_pos', nI_pos, n_m1e, n_01, n_10, sT_98, sT_99, sT_100, sT_101, sT_102, sT_103, sT_104, sT_105, sT_106, sT_107, sT_108, sT_109, sT_110, sT_111, sT_112, sT_113, sT_114, sT_115, sT_116, sT_117, sT_118, sT_119, sT_120, sT_121, sT_122, sT_123, sT_124, sT_125, sT_126, sT_127, sT_128, sT_129, sT_130, sT_131, sT_132, sT_133, sT_134, sT_135, sT_136, sT_137, sT_138, sT_139, sT_140, sR_98_1, sR_98_4, sR_98_5, sR_98_6, sR_98_7, sR_98_8, sR_98_9, sR_98_10, sR_98_12, sR_98_13, sR_98_14, sR_98_15, sR_98_16, sR_98_17, sR_98_18, sR_98_19, sR_98_20, sR_98_21, sR_98_22, sR_98_23, sR_98_24, sR_98_25, sR_98_26, sR_98_27, sR_98_28, sR_98_29, sR_98_31, sR_98_34, sR_98_35, sR_98_36, sR_98_42, sR_98_44, sR_98_45, sR_98_47, sR_98_49, sR_98_51, sR_98_56, sR_98_58, sR_98_62, sR_98_65, sR_98_66, sR_98_69, e]; exact n_11
  | false => simp (disch := first | assumption | omega) [f_M_line, j_meth, j_out, j_rok, j_pad, lg_sl, s_seq_w, isN_inl, isN_inr, s_if, jb, x_c, x_iloc, x_aloc, x_lloc, x_bin, x_un, o_add, o_sub, o_mul, o_and, o_or, o_xor, o_shl, o_shr, o_ushr, o_max, o_min, o_i2b, o_i2c, o_i2l, o_l2i, x_fld, j_fget, x_idx, j_aget, x_len, j_alen, x_ofb, x_ite, xs_nil, xs_cons, x_callv, x_calls, s_callv, s_calls, j_recv, j_ret, j_retv, b_cmp, b_and, b_or, b_not, b_ofi, b_ite, b_true, s_skip, s_set, j_ty, j_lset, j_kill, s_inc, s_fput, j_fput, s_fop, s_aput, j_aput, j_nar, s_aop, s_ret, s_retv, s_go, s_pop, x_linc, x_finc, Value.category, if_icmp.holds, List.flatMap_cons, List.flatMap_nil, List.length_cons, List.length_append, List.length_nil, List.set_cons_succ, List.set_cons_zero, List.getElem?_cons_succ, List.getElem?_cons_zero, List.replicate, ite_and', ite_or', ite_int', nI_leI, nI_ltI, nI_eq, nI_add, nI_1, pk_mul, nI_clamp, n_in', nI_pos', nI_pos, n_m1e, n_01, n_10, sT_98, sT_99, sT_100, sT_101, sT_102, sT_103, sT_104, sT_105, sT_106, sT_107, sT_108, sT_109, sT_110, sT_111, sT_112, sT_113, sT_114, sT_115, sT_116, sT_117, sT_118, sT_119, sT_120, sT_121, sT_122, sT_123, sT_124, sT_125, sT_126, sT_127, sT_128, sT_129, sT_130, sT_131, sT_132, sT_133, sT_134, sT_135, sT_136, sT_137, sT_138, sT_139, sT_140, sR_98_1, sR_98_4, sR_98_5, sR_98_6, sR_98_7, sR_98_8, sR_98_9, sR_98_10, sR_98_12, sR_98_13, sR_98_14, sR_98_15, sR_98_16, sR_98_17, sR_98_18, sR_98_19, sR_98_20, sR_98_21, sR_98_22, sR_98_23, sR_98_24, sR_98_25, sR_98_26, sR_98_27, sR_98_28, sR_98_29, sR_98_31, sR_98_34, sR_98_35, sR_98_36, sR_98_42, sR_98_44, sR_98_45, sR_98_47, sR_98_49, sR_98_51, sR_98_56, sR_98_58, sR_98_62, sR_98_65, sR_98_66, sR_98_69, e]; exact ⟨Or.inl nI_0, nI_0⟩
theorem e_M_line {tx : List Nat} {i : Nat} {h : jHp} {C : CH} (r : RP tx i h) (hi : i < 2 ^ 27) (rc : RCn C h) (l1 : (cKeeps C).length < 30) (l2 : (cBoths C).length < 30) (l3 : (cNevers C).length < 30) :
    ∃ h', f_M_line [.ref 98] h = some (some (.int (if (pLn tx i C).1.isSome then 1 else 0)), h') ∧ RP tx (pLn tx i C).2 h' ∧ Fr Wln h h' ∧ ∀ C', (pLn tx i C).1 = some C' → RCn C' h' := by
  have r1 := RP_adv (j := i + 1) r
  have f1 : Fr W39 h (hSetI h 98 39 (nI (i + 1))) := Fr_set _ ⟨rfl, rfl⟩
  have rc1 := RCn_39 rc f1
  have fl1 : Fr Wln h (hSetI h 98 39 (nI (i + 1))) := Fr_mono f1 (by unfold W39 Wln; intro a k; omega)
  have no := fun (c : Nat) (hc : c < 128) (q : tg tx i ≠ some c) => ln_no r (by omega) hc q
  have yes := fun (c : Nat) (hc : c < 128) (q : tg tx i = some c) (B T : jSt) (L : List Value) (v : Option Value) (st : jS) hB => ln_yes (v := v) (st := st) r (by omega) hc q B T L hB
  by_cases c1 : tg tx i = some 113
  · obtain ⟨h', L, e, r', f', g'⟩ := e_ln_q r1 (by omega) rc1
    refine ⟨h', ?_, ?_, Fr_trans fl1 f', ?_⟩
    · have hz : (pLn tx i C).1.isSome = (pNum tx (i + 1)).isSome := by
        unfold pLn; rw [if_pos c1]; cases pNum tx (i + 1) <;> rfl
      rw [hz]
      refine ln_out (L := L) ?_
      rw [ln_body]
      unfold lnT0
      exact yes 113 (by decide) c1 _ _ _ _ _ e
    · unfold pLn; rw [if_pos c1]
      cases hq : pNum tx (i + 1) <;> (rw [hq] at r'; exact r')
    · intro C' hC
      unfold pLn at hC; rw [if_pos c1] at hC
      cases hq : pNum tx (i + 1) with
      | none => rw [hq] at hC; cases hC
      | some q => rw [hq] at hC; cases hC; exact g' q hq
  by_cases c2 : tg tx i = some 99
  · obtain ⟨h', L, e, r', f', g'⟩ := e_ln_c r1 (by omega) rc1
    refine ⟨h', ?_, ?_, Fr_trans fl1 f', ?_⟩
    · have hz : (pLn tx i C).1.isSome = (pNum tx (i + 1)).isSome := by
        unfold pLn; rw [if_neg c1, if_pos c2]; cases pNum tx (i + 1) <;> rfl
      rw [hz]
      refine ln_out (L := L) ?_
      rw [ln_body]
      unfold lnT0
      rw [no 113 (by decide) c1]
      unfold lnT1
      exact yes 99 (by decide) c2 _ _ _ _ _ e
    · unfold pLn; rw [if_neg c1, if_pos c2]
      cases hq : pNum tx (i + 1) <;> (rw [hq] at r'; exact r')
    · intro C' hC
      unfold pLn at hC; rw [if_neg c1, if_pos c2] at hC
      cases hq : pNum tx (i + 1) with
      | none => rw [hq] at hC; cases hC
      | some q => rw [hq] at hC; cases hC; exact g' q hq
  by_cases c3 : tg tx i = some 114
  · obtain ⟨h', L, e, r', f', g'⟩ := e_ln_r r1 (by omega) rc1
    generalize hK : pKyA tx (i + 1) = K at *
    obtain ⟨o, j⟩ := K
    have hP : pLn tx i C = (o.map (fun ks => (C.1, C.2.1, ks, C.2.2.2)), j) := by
      unfold pLn; rw [if_neg c1, if_neg c2, if_pos c3, hK]; cases o <;> rfl
    refine ⟨h', ?_, ?_, Fr_trans fl1 f', ?_⟩
    · have hz : (pLn tx i C).1.isSome = o.isSome := by rw [hP]; cases o <;> rfl
      rw [hz]
      refine ln_out (L := L) ?_
      rw [ln_body]
      unfold lnT0
      rw [no 113 (by decide) c1]
      unfold lnT1
      rw [no 99 (by decide) c2]
      unfold lnT2
      exact yes 114 (by decide) c3 _ _ _ _ _ e
    · rw [hP]; cases o <;> exact r'
    · intro C' hC
      rw [hP] at hC
      cases o with
      | none => cases hC
      | some ks => cases hC; exact g' ks rfl
  by_cases c4 : tg tx i = some 107
  · obtain ⟨h', L, e, r', f', g'⟩ := e_ln_k r1 (by omega) rc1 l1
    generalize hK : pKep tx (i + 1) = K at *
    obtain ⟨o, j⟩ := K
    have hP : pLn tx i C = (o.map (fun m => (C.1, C.2.1, C.2.2.1, cKeeps C ++ [m], C.2.2.2.2)), j) := by
      unfold pLn; rw [if_neg c1, if_neg c2, if_neg c3, if_pos c4, hK]; cases o <;> rfl
    refine ⟨h', ?_, ?_, Fr_trans fl1 f', ?_⟩
    · have hz : (pLn tx i C).1.isSome = o.isSome := by rw [hP]; cases o <;> rfl
      rw [hz]
      refine ln_out (L := L) ?_
      rw [ln_body]
      unfold lnT0
      rw [no 113 (by decide) c1]
      unfold lnT1
      rw [no 99 (by decide) c2]
      unfold lnT2
      rw [no 114 (by decide) c3]
      unfold lnT3
      exact yes 107 (by decide) c4 _ _ _ _ _ e
    · rw [hP]; cases o <;> exact r'
    · intro C' hC
      rw [hP] at hC
      cases o with
      | none => cases hC
      | some ks => cases hC; exact g' ks rfl
  by_cases c5 : tg tx i = some 119
  · obtain ⟨h', L, e, r', f', g'⟩ := e_ln_w r1 (by omega) rc1 l2
    generalize hK : pTwo tx 38 (i + 1) = K at *
    obtain ⟨o, j⟩ := K
    have hP : pLn tx i C = (o.map (fun m => (C.1, C.2.1, C.2.2.1, C.2.2.2.1, cBoths C ++ [m], C.2.2.2.2.2)), j) := by
      unfold pLn; rw [if_neg c1, if_neg c2, if_neg c3, if_neg c4, if_pos c5, hK]; cases o <;> rfl
    refine ⟨h', ?_, ?_, Fr_trans fl1 f', ?_⟩
    · have hz : (pLn tx i C).1.isSome = o.isSome := by rw [hP]; cases o <;> rfl
      rw [hz]
      refine ln_out (L := L) ?_
      rw [ln_body]
      unfold lnT0
      rw [no 113 (by decide) c1]
      unfold lnT1
      rw [no 99 (by decide) c2]
      unfold lnT2
      rw [no 114 (by decide) c3]
      unfold lnT3
      rw [no 107 (by decide) c4]
      unfold lnT4
      exact yes 119 (by decide) c5 _ _ _ _ _ e
    · rw [hP]; cases o <;> exact r'
    · intro C' hC
      rw [hP] at hC
      cases o with
      | none => cases hC
      | some ks => cases hC; exact g' ks rfl
  by_cases c6 : tg tx i = some 120
  · obtain ⟨h', L, e, r', f', g'⟩ := e_lnX r (by omega) rc l3 c6
    generalize hK : pTwo tx 124 (i + 1) = K at *
    obtain ⟨o, j⟩ := K
    have hP : pLn tx i C = (o.map (fun m => (C.1, C.2.1, C.2.2.1, C.2.2.2.1, C.2.2.2.2.1, cNevers C ++ [m])), j) := by
      unfold pLn; rw [if_neg c1, if_neg c2, if_neg c3, if_neg c4, if_neg c5, if_pos c6, hK]; cases o <;> rfl
    refine ⟨h', ?_, ?_, f', ?_⟩
    · have hz : (pLn tx i C).1.isSome = o.isSome := by rw [hP]; cases o <;> rfl
      rw [hz]
      refine ln_out (L := L) ?_
      rw [ln_body]
      unfold lnT0
      rw [no 113 (by decide) c1]
      unfold lnT1
      rw [no 99 (by decide) c2]
      unfold lnT2
      rw [no 114 (by decide) c3]
      unfold lnT3
      rw [no 107 (by decide) c4]
      unfold lnT4
      rw [no 119 (by decide) c5]
      exact e
    · rw [hP]; cases o <;> exact r'
    · intro C' hC
      rw [hP] at hC
      cases o with
      | none => cases hC
      | some ks => cases hC; exact g' ks rfl
  · have hP : pLn tx i C = (none, i) := by
      unfold pLn; rw [if_neg c1, if_neg c2, if_neg c3, if_neg c4, if_neg c5, if_neg c6]
    rw [hP]
    refine ⟨h, ?_, r, Fr_refl _ _, fun C' hC => by cases hC⟩
    refine ln_out (L := [.ref 98, .null, .null]) ?_
    rw [ln_body]
    unfold lnT0
    rw [no 113 (by decide) c1]
    unfold lnT1
    rw [no 99 (by decide) c2]
    unfold lnT2
    rw [no 114 (by decide) c3]
    unfold lnT3
    rw [no 107 (by decide) c4]
    unfold lnT4
    rw [no 119 (by decide) c5]
    have hs := r.1
    have ep := p_no r (by omega) (c := 120) (by decide) c6
    simp (disch := first | assumption | omega) [lnX, j_meth, j_out, j_rok, j_pad, lg_sl, s_seq_w, isN_inl, isN_inr, s_if, jb, x_c, x_iloc, x_aloc, x_lloc, x_bin, x_un, o_add, o_sub, o_mul, o_and, o_or, o_xor, o_shl, o_shr, o_ushr, o_max, o_min, o_i2b, o_i2c, o_i2l, o_l2i, x_fld, j_fget, x_idx, j_aget, x_len, j_alen, x_ofb, x_ite, xs_nil, xs_cons, x_callv, x_calls, s_callv, s_calls, j_recv, j_ret, j_retv, b_cmp, b_and, b_or, b_not, b_ofi, b_ite, b_true, s_skip, s_set, j_ty, j_lset, j_kill, s_inc, s_fput, j_fput, s_fop, s_aput, j_aput, j_nar, s_aop, s_ret, s_retv, s_go, s_pop, x_linc, x_finc, Value.category, if_icmp.holds, List.flatMap_cons, List.flatMap_nil, List.length_cons, List.length_append, List.length_nil, List.set_cons_succ, List.set_cons_zero, List.getElem?_cons_succ, List.getElem?_cons_zero, List.replicate, ite_and', ite_or', ite_int', nI_leI, nI_ltI, nI_eq, nI_add, nI_1, pk_mul, nI_clamp, n_in', nI_pos', nI_pos, n_m1e, n_01, n_10, sT_98, sT_99, sT_100, sT_101, sT_102, sT_103, sT_104, sT_105, sT_106, sT_107, sT_108, sT_109, sT_110, sT_111, sT_112, sT_113, sT_114, sT_115, sT_116, sT_117, sT_118, sT_119, sT_120, sT_121, sT_122, sT_123, sT_124, sT_125, sT_126, sT_127, sT_128, sT_129, sT_130, sT_131, sT_132, sT_133, sT_134, sT_135, sT_136, sT_137, sT_138, sT_139, sT_140, sR_98_1, sR_98_4, sR_98_5, sR_98_6, sR_98_7, sR_98_8, sR_98_9, sR_98_10, sR_98_12, sR_98_13, sR_98_14, sR_98_15, sR_98_16, sR_98_17, sR_98_18, sR_98_19, sR_98_20, sR_98_21, sR_98_22, sR_98_23, sR_98_24, sR_98_25, sR_98_26, sR_98_27, sR_98_28, sR_98_29, sR_98_31, sR_98_34, sR_98_35, sR_98_36, sR_98_42, sR_98_44, sR_98_45, sR_98_47, sR_98_49, sR_98_51, sR_98_56, sR_98_58, sR_98_62, sR_98_65, sR_98_66, sR_98_69, ep]
