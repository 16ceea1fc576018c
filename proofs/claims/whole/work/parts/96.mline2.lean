theorem pNum_lt {tx : List Nat} {i : Nat} {q : Nat × Nat} (c : pNum tx i = some q) : q.1 ≤ 999 ∧ i + 1 ≤ q.2 ∧ q.2 ≤ i + 3 := by
  unfold pNum at c
  cases d1 : pDig tx 57 i with
  | none => rw [d1] at c; cases c
  | some a =>
    have ha := (pDig_lt d1).1
    rw [d1] at c
    simp only at c
    cases d2 : pDig tx 57 (i + 1) with
    | none => rw [d2] at c; cases c; simp only; omega
    | some b =>
      have hb := (pDig_lt d2).1
      rw [d2] at c
      simp only at c
      cases d3 : pDig tx 57 (i + 2) with
      | none => rw [d3] at c; cases c; simp only; omega
      | some d =>
        have hd := (pDig_lt d3).1
        rw [d3] at c; cases c; simp only; omega
theorem e_ln_c {tx : List Nat} {i : Nat} {h : jHp} {C : CH} (r : RP tx i h) (hi : i < 2 ^ 29) (rc : RCn C h) : ∃ h' L, ln_c ([.ref 98, .null, .null], h) = some (.inr (some (.int (nI (if (pNum tx i).isSome then 1 else 0)))), (L, h')) ∧ RP tx (match pNum tx i with
    | none => i
    | some q => q.2) h' ∧ Fr Wln h h' ∧ ∀ q, pNum tx i = some q → RCn (C.1, some q.1, C.2.2) h' := by
  obtain ⟨h1, e1, r1, f1⟩ := e_M_number r (by omega)
  have hs := r.1
  have hs1 := r1.1
  have fl : Fr Wln h h1 := Fr_mono f1 (by unfold W39 Wln; intro a k; omega)
  cases c : pNum tx i with
  | none =>
    rw [c] at e1 r1
    refine ⟨h1, [.ref 98, .int (-1), .null], ?_, r1, fl, fun q hq => by cases hq⟩
    simp (disch := first | assumption | omega) [ln_c, j_meth, j_out, j_rok, j_pad, lg_sl, s_seq_w, isN_inl, isN_inr, s_if, jb, x_c, x_iloc, x_aloc, x_lloc, x_bin, x_un, o_add, o_sub, o_mul, o_and, o_or, o_xor, o_shl, o_shr, o_ushr, o_max, o_min, o_i2b, o_i2c, o_i2l, o_l2i, x_fld, j_fget, x_idx, j_aget, x_len, j_alen, x_ofb, x_ite, xs_nil, xs_cons, x_callv, x_calls, s_callv, s_calls, j_recv, j_ret, j_retv, b_cmp, b_and, b_or, b_not, b_ofi, b_ite, b_true, s_skip, s_set, j_ty, j_lset, j_kill, s_inc, s_fput, j_fput, s_fop, s_aput, j_aput, j_nar, s_aop, s_ret, s_retv, s_go, s_pop, x_linc, x_finc, Value.category, if_icmp.holds, List.flatMap_cons, List.flatMap_nil, List.length_cons, List.length_append, List.length_nil, List.set_cons_succ, List.set_cons_zero, List.getElem?_cons_succ, List.getElem?_cons_zero, List.replicate, ite_and', ite_or', ite_int', nI_leI, nI_ltI, nI_eq, nI_add, nI_1, pk_mul, nI_clamp, n_in', nI_pos', nI_pos, n_m1e, n_01, n_10, sT_98, sT_99, sT_100, sT_101, sT_102, sT_103, sT_104, sT_105, sT_106, sT_107, sT_108, sT_109, sT_110, sT_111, sT_112, sT_113, sT_114, sT_115, sT_116, sT_117, sT_118, sT_119, sT_120, sT_121, sT_122, sT_123, sT_124, sT_125, sT_126, sT_127, sT_128, sT_129, sT_130, sT_131, sT_132, sT_133, sT_134, sT_135, sT_136, sT_137, sT_138, sT_139, sT_140, sR_98_1, sR_98_4, sR_98_5, sR_98_6, sR_98_7, sR_98_8, sR_98_9, sR_98_10, sR_98_12, sR_98_13, sR_98_14, sR_98_15, sR_98_16, sR_98_17, sR_98_18, sR_98_19, sR_98_20, sR_98_21, sR_98_22, sR_98_23, sR_98_24, sR_98_25, sR_98_26, sR_98_27, sR_98_28, sR_98_29, sR_98_31, sR_98_34, sR_98_35, sR_98_36, sR_98_42, sR_98_44, sR_98_45, sR_98_47, sR_98_49, sR_98_51, sR_98_56, sR_98_58, sR_98_62, sR_98_65, sR_98_66, sR_98_69, e1, Option.map_none, oI_n]
  | some q =>
    rw [c] at e1 r1
    have hq := (pNum_lt c).1
    have hq1 := n_m1e (n := q.1) (by omega)
    have f2 : Fr (fun a k => a = 98 ∧ k = 41) h1 (hSetI h1 98 41 (nI q.1)) := Fr_set _ ⟨rfl, rfl⟩
    have rc1 := RCn_39 rc f1
    refine ⟨hSetI h1 98 41 (nI q.1), [.ref 98, .int (nI q.1), .null], ?_, RP_fr r1 f2 (by intro a k; omega), Fr_trans fl (Fr_mono f2 (by unfold Wln; intro a k; omega)), fun q' hq' => ?_⟩
    · simp (disch := first | assumption | omega) [ln_c, j_meth, j_out, j_rok, j_pad, lg_sl, s_seq_w, isN_inl, isN_inr, s_if, jb, x_c, x_iloc, x_aloc, x_lloc, x_bin, x_un, o_add, o_sub, o_mul, o_and, o_or, o_xor, o_shl, o_shr, o_ushr, o_max, o_min, o_i2b, o_i2c, o_i2l, o_l2i, x_fld, j_fget, x_idx, j_aget, x_len, j_alen, x_ofb, x_ite, xs_nil, xs_cons, x_callv, x_calls, s_callv, s_calls, j_recv, j_ret, j_retv, b_cmp, b_and, b_or, b_not, b_ofi, b_ite, b_true, s_skip, s_set, j_ty, j_lset, j_kill, s_inc, s_fput, j_fput, s_fop, s_aput, j_aput, j_nar, s_aop, s_ret, s_retv, s_go, s_pop, x_linc, x_finc, Value.category, if_icmp.holds, List.flatMap_cons, List.flatMap_nil, List.length_cons, List.length_append, List.length_nil, List.set_cons_succ, List.set_cons_zero, List.getElem?_cons_succ, List.getElem?_cons_zero, List.replicate, ite_and', ite_or', ite_int', nI_leI, nI_ltI, nI_eq, nI_add, nI_1, pk_mul, nI_clamp, n_in', nI_pos', nI_pos, n_m1e, n_01, n_10, sT_98, sT_99, sT_100, sT_101, sT_102, sT_103, sT_104, sT_105, sT_106, sT_107, sT_108, sT_109, sT_110, sT_111, sT_112, sT_113, sT_114, sT_115, sT_116, sT_117, sT_118, sT_119, sT_120, sT_121, sT_122, sT_123, sT_124, sT_125, sT_126, sT_127, sT_128, sT_129, sT_130, sT_131, sT_132, sT_133, sT_134, sT_135, sT_136, sT_137, sT_138, sT_139, sT_140, sR_98_1, sR_98_4, sR_98_5, sR_98_6, sR_98_7, sR_98_8, sR_98_9, sR_98_10, sR_98_12, sR_98_13, sR_98_14, sR_98_15, sR_98_16, sR_98_17, sR_98_18, sR_98_19, sR_98_20, sR_98_21, sR_98_22, sR_98_23, sR_98_24, sR_98_25, sR_98_26, sR_98_27, sR_98_28, sR_98_29, sR_98_31, sR_98_34, sR_98_35, sR_98_36, sR_98_42, sR_98_44, sR_98_45, sR_98_47, sR_98_49, sR_98_51, sR_98_56, sR_98_58, sR_98_62, sR_98_65, sR_98_66, sR_98_69, e1, Option.map_some, oI_s, hq1]
    · cases hq'
      have e : ∀ a k, ¬ (a = 98 ∧ k = 41) → hI (hSetI h1 98 41 (nI q.1)) a k = hI h1 a k := fun a k z => Fr_I f2 z
      obtain ⟨r1, r2, ⟨r3, r4⟩, ⟨r5, r6⟩, ⟨r7, r8⟩, ⟨r9, r10⟩⟩ := rc1
      exact ⟨by rw [e _ _ (by omega)]; exact r1, by rw [hI_setI, if_pos ⟨rfl, rfl⟩]; rfl, ⟨by rw [e _ _ (by omega)]; exact r3, fun k hk => by rw [e _ _ (by omega)]; exact r4 k hk⟩, ⟨by rw [e _ _ (by omega)]; exact r5, fun k hk => by rw [e _ _ (by omega), e _ _ (by omega)]; exact r6 k hk⟩, ⟨by rw [e _ _ (by omega)]; exact r7, fun k hk => by rw [e _ _ (by omega)]; exact r8 k hk⟩, ⟨by rw [e _ _ (by omega)]; exact r9, fun k hk => by rw [e _ _ (by omega)]; exact r10 k hk⟩⟩
theorem getD_app {α : Type} {l : List α} {x d : α} {k : Nat} : (l ++ [x]).getD k d = if k < l.length then l.getD k d else if k = l.length then x else d := by
  simp only [List.getD_eq_getElem?_getD]
  by_cases h1 : k < l.length
  · rw [if_pos h1, List.getElem?_append_left h1]
  · rw [if_neg h1]
    by_cases h2 : k = l.length
    · subst h2; simp
    · rw [if_neg h2, List.getElem?_eq_none (by rw [List.length_append, List.length_singleton]; omega)]; rfl
theorem e_ln_w {tx : List Nat} {i : Nat} {h : jHp} {C : CH} (r : RP tx i h) (hi : i < 2 ^ 29) (rc : RCn C h) (hl : (cBoths C).length < 30) : ∃ h' L, ln_w ([.ref 98, .null, .null], h) = some (.inr (some (.int (nI (if (pTwo tx 38 i).1.isSome then 1 else 0)))), (L, h')) ∧ RP tx (pTwo tx 38 i).2 h' ∧ Fr Wln h h' ∧ ∀ m, (pTwo tx 38 i).1 = some m → RCn (C.1, C.2.1, C.2.2.1, C.2.2.2.1, cBoths C ++ [m], C.2.2.2.2.2) h' := by
  obtain ⟨h1, e1, r1, f1⟩ := e_M_two r (by omega) (sg := 38) (by decide)
  have hs := r.1
  have hs1 := r1.1
  have fl : Fr Wln h h1 := Fr_mono f1 (by unfold W39 Wln; intro a k; omega)
  generalize hT : pTwo tx 38 i = T at *
  obtain ⟨o, j⟩ := T
  simp only at e1 r1 ⊢
  cases o with
  | none =>
    refine ⟨h1, [.ref 98, .int (-1), .null], ?_, r1, fl, fun q hq => by cases hq⟩
    simp (disch := first | assumption | omega) [ln_w, j_meth, j_out, j_rok, j_pad, lg_sl, s_seq_w, isN_inl, isN_inr, s_if, jb, x_c, x_iloc, x_aloc, x_lloc, x_bin, x_un, o_add, o_sub, o_mul, o_and, o_or, o_xor, o_shl, o_shr, o_ushr, o_max, o_min, o_i2b, o_i2c, o_i2l, o_l2i, x_fld, j_fget, x_idx, j_aget, x_len, j_alen, x_ofb, x_ite, xs_nil, xs_cons, x_callv, x_calls, s_callv, s_calls, j_recv, j_ret, j_retv, b_cmp, b_and, b_or, b_not, b_ofi, b_ite, b_true, s_skip, s_set, j_ty, j_lset, j_kill, s_inc, s_fput, j_fput, s_fop, s_aput, j_aput, j_nar, s_aop, s_ret, s_retv, s_go, s_pop, x_linc, x_finc, Value.category, if_icmp.holds, List.flatMap_cons, List.flatMap_nil, List.length_cons, List.length_append, List.length_nil, List.set_cons_succ, List.set_cons_zero, List.getElem?_cons_succ, List.getElem?_cons_zero, List.replicate, ite_and', ite_or', ite_int', nI_leI, nI_ltI, nI_eq, nI_add, nI_1, pk_mul, nI_clamp, n_in', nI_pos', nI_pos, n_m1e, n_01, n_10, sT_98, sT_99, sT_100, sT_101, sT_102, sT_103, sT_104, sT_105, sT_106, sT_107, sT_108, sT_109, sT_110, sT_111, sT_112, sT_113, sT_114, sT_115, sT_116, sT_117, sT_118, sT_119, sT_120, sT_121, sT_122, sT_123, sT_124, sT_125, sT_126, sT_127, sT_128, sT_129, sT_130, sT_131, sT_132, sT_133, sT_134, sT_135, sT_136, sT_137, sT_138, sT_139, sT_140, sR_98_1, sR_98_4, sR_98_5, sR_98_6, sR_98_7, sR_98_8, sR_98_9, sR_98_10, sR_98_12, sR_98_13, sR_98_14, sR_98_15, sR_98_16, sR_98_17, sR_98_18, sR_98_19, sR_98_20, sR_98_21, sR_98_22, sR_98_23, sR_98_24, sR_98_25, sR_98_26, sR_98_27, sR_98_28, sR_98_29, sR_98_31, sR_98_34, sR_98_35, sR_98_36, sR_98_42, sR_98_44, sR_98_45, sR_98_47, sR_98_49, sR_98_51, sR_98_56, sR_98_58, sR_98_62, sR_98_65, sR_98_66, sR_98_69, e1, oI_n]
  | some m =>
    obtain ⟨⟨a, b, ha, hb, -, rfl⟩, -⟩ := pTwo_ok hT
    have hm : 2 ^ a ||| 2 ^ b < 2 ^ 7 := Nat.or_lt_two_pow (Nat.pow_lt_pow_right (by decide) ha) (Nat.pow_lt_pow_right (by decide) hb)
    generalize 2 ^ a ||| 2 ^ b = m at *
    have hq1 := n_m1e (n := m) (by omega)
    have rc1 := RCn_39 rc f1
    have rc1' := rc1
    obtain ⟨q1, q2, ⟨q3, q4⟩, ⟨q5, q6⟩, ⟨q7, q8⟩, ⟨q9, q10⟩⟩ := rc1
    generalize hbl : cBoths C = bl at *
    have f2 : Fr (fun a k => a = 132 ∨ (a = 98 ∧ k = 48)) h1 (hSetI (hSetI h1 132 bl.length (nI m)) 98 48 (nI (bl.length + 1))) := Fr_trans (Fr_set _ (Or.inl rfl)) (Fr_set _ (Or.inr ⟨rfl, rfl⟩))
    have hs2 : Shape (hSetI h1 132 bl.length (nI m)) := Fr_shape (W := fun _ _ => True) hs1 (Fr_set _ trivial)
    have d48 : hI (hSetI h1 132 bl.length (nI m)) 98 48 = nI bl.length := by rw [hI_setI, if_neg (by omega)]; exact q7
    refine ⟨hSetI (hSetI h1 132 bl.length (nI m)) 98 48 (nI (bl.length + 1)), [.ref 98, .int (nI m), .null], ?_, RP_fr r1 f2 (by intro a k; omega), Fr_trans fl (Fr_mono f2 (by unfold Wln; intro a k; omega)), fun q' hq' => ?_⟩
    · generalize hg : hSetI h1 132 bl.length (nI m) = h2 at *
      simp (disch := first | assumption | omega) [ln_w, j_meth, j_out, j_rok, j_pad, lg_sl, s_seq_w, isN_inl, isN_inr, s_if, jb, x_c, x_iloc, x_aloc, x_lloc, x_bin, x_un, o_add, o_sub, o_mul, o_and, o_or, o_xor, o_shl, o_shr, o_ushr, o_max, o_min, o_i2b, o_i2c, o_i2l, o_l2i, x_fld, j_fget, x_idx, j_aget, x_len, j_alen, x_ofb, x_ite, xs_nil, xs_cons, x_callv, x_calls, s_callv, s_calls, j_recv, j_ret, j_retv, b_cmp, b_and, b_or, b_not, b_ofi, b_ite, b_true, s_skip, s_set, j_ty, j_lset, j_kill, s_inc, s_fput, j_fput, s_fop, s_aput, j_aput, j_nar, s_aop, s_ret, s_retv, s_go, s_pop, x_linc, x_finc, Value.category, if_icmp.holds, List.flatMap_cons, List.flatMap_nil, List.length_cons, List.length_append, List.length_nil, List.set_cons_succ, List.set_cons_zero, List.getElem?_cons_succ, List.getElem?_cons_zero, List.replicate, ite_and', ite_or', ite_int', nI_leI, nI_ltI, nI_eq, nI_add, nI_1, pk_mul, nI_clamp, n_in', nI_pos', nI_pos, n_m1e, n_01, n_10, sT_98, sT_99, sT_100, sT_101, sT_102, sT_103, sT_104, sT_105, sT_106, sT_107, sT_108, sT_109, sT_110, sT_111, sT_112, sT_113, sT_114, sT_115, sT_116, sT_117, sT_118, sT_119, sT_120, sT_121, sT_122, sT_123, sT_124, sT_125, sT_126, sT_127, sT_128, sT_129, sT_130, sT_131, sT_132, sT_133, sT_134, sT_135, sT_136, sT_137, sT_138, sT_139, sT_140, sR_98_1, sR_98_4, sR_98_5, sR_98_6, sR_98_7, sR_98_8, sR_98_9, sR_98_10, sR_98_12, sR_98_13, sR_98_14, sR_98_15, sR_98_16, sR_98_17, sR_98_18, sR_98_19, sR_98_20, sR_98_21, sR_98_22, sR_98_23, sR_98_24, sR_98_25, sR_98_26, sR_98_27, sR_98_28, sR_98_29, sR_98_31, sR_98_34, sR_98_35, sR_98_36, sR_98_42, sR_98_44, sR_98_45, sR_98_47, sR_98_49, sR_98_51, sR_98_56, sR_98_58, sR_98_62, sR_98_65, sR_98_66, sR_98_69, e1, oI_s, hq1, q7, hg, d48]
    · simp only [Option.some.injEq] at hq'
      subst hq'
      have e : ∀ a k, a ≠ 132 → ¬ (a = 98 ∧ k = 48) → hI (hSetI (hSetI h1 132 bl.length (nI m)) 98 48 (nI (bl.length + 1))) a k = hI h1 a k := fun a k z1 z2 => Fr_I f2 (by omega)
      refine ⟨by rw [e _ _ (by omega) (by omega)]; exact q1, by rw [e _ _ (by omega) (by omega)]; exact q2, ⟨by rw [e _ _ (by omega) (by omega)]; exact q3, fun k hk => by rw [e _ _ (by omega) (by omega)]; exact q4 k hk⟩, ⟨by rw [e _ _ (by omega) (by omega)]; exact q5, fun k hk => by rw [e _ _ (by omega) (by omega), e _ _ (by omega) (by omega)]; exact q6 k hk⟩, ⟨?_, fun k hk => ?_⟩, ⟨by rw [e _ _ (by omega) (by omega)]; exact q9, fun k hk => by rw [e _ _ (by omega) (by omega)]; exact q10 k hk⟩⟩
      · show hI _ 98 48 = nI (bl ++ [m]).length
        rw [hI_setI, if_pos ⟨rfl, rfl⟩, List.length_append, List.length_singleton]
      · have hk' : k < (bl ++ [m]).length := hk
        rw [List.length_append, List.length_singleton] at hk'
        show hI _ 132 k = nI ((bl ++ [m]).getD k 0)
        rw [getD_app, hI_setI, if_neg (by omega), hI_setI]
        by_cases z : k < bl.length
        · rw [if_pos z, if_neg (by omega)]; exact q8 k z
        · rw [if_neg z, if_pos (by omega), if_pos (by omega)]
theorem e_lnX {tx : List Nat} {i : Nat} {h : jHp} {C : CH} (r : RP tx i h) (hi : i < 2 ^ 29) (rc : RCn C h) (hl : (cNevers C).length < 30) (hx : tg tx i = some 120) : ∃ h' L, lnX ([.ref 98, .null, .null], h) = some (.inr (some (.int (nI (if (pTwo tx 124 (i + 1)).1.isSome then 1 else 0)))), (L, h')) ∧ RP tx (pTwo tx 124 (i + 1)).2 h' ∧ Fr Wln h h' ∧ ∀ m, (pTwo tx 124 (i + 1)).1 = some m → RCn (C.1, C.2.1, C.2.2.1, C.2.2.2.1, C.2.2.2.2.1, cNevers C ++ [m]) h' := by
  have hs := r.1
  have ep := p_yes r (by omega) (c := 120) (by decide) hx
  have r0 := RP_adv (j := i + 1) r
  have f0 : Fr W39 h (hSetI h 98 39 (nI (i + 1))) := Fr_set _ ⟨rfl, rfl⟩
  have rc0 := RCn_39 rc f0
  have hs0 := r0.1
  generalize hh0 : hSetI h 98 39 (nI (i + 1)) = h0 at *
  obtain ⟨h1, e1, r1, f1⟩ := e_M_two r0 (by omega) (sg := 124) (by decide)
  have hs1 := r1.1
  have fl : Fr Wln h h1 := Fr_trans (Fr_mono f0 (by unfold W39 Wln; intro a k; omega)) (Fr_mono f1 (by unfold W39 Wln; intro a k; omega))
  generalize hT : pTwo tx 124 (i + 1) = T at *
  obtain ⟨o, j⟩ := T
  simp only at e1 r1 ⊢
  cases o with
  | none =>
    refine ⟨h1, [.ref 98, .int (-1), .null], ?_, r1, fl, fun q hq => by cases hq⟩
    simp (disch := first | assumption | omega) [lnX, j_meth, j_out, j_rok, j_pad, lg_sl, s_seq_w, isN_inl, isN_inr, s_if, jb, x_c, x_iloc, x_aloc, x_lloc, x_bin, x_un, o_add, o_sub, o_mul, o_and, o_or, o_xor, o_shl, o_shr, o_ushr, o_max, o_min, o_i2b, o_i2c, o_i2l, o_l2i, x_fld, j_fget, x_idx, j_aget, x_len, j_alen, x_ofb, x_ite, xs_nil, xs_cons, x_callv, x_calls, s_callv, s_calls, j_recv, j_ret, j_retv, b_cmp, b_and, b_or, b_not, b_ofi, b_ite, b_true, s_skip, s_set, j_ty, j_lset, j_kill, s_inc, s_fput, j_fput, s_fop, s_aput, j_aput, j_nar, s_aop, s_ret, s_retv, s_go, s_pop, x_linc, x_finc, Value.category, if_icmp.holds, List.flatMap_cons, List.flatMap_nil, List.length_cons, List.length_append, List.length_nil, List.set_cons_succ, List.set_cons_zero, List.getElem?_cons_succ, List.getElem?_cons_zero, List.replicate, ite_and', ite_or', ite_int', nI_leI, nI_ltI, nI_eq, nI_add, nI_1, pk_mul, nI_clamp, n_in', nI_pos', nI_pos, n_m1e, n_01, n_10, sT_98, sT_99, sT_100, sT_101, sT_102, sT_103, sT_104, sT_105, sT_106, sT_107, sT_108, sT_109, sT_110, sT_111, sT_112, sT_113, sT_114, sT_115, sT_116, sT_117, sT_118, sT_119, sT_120, sT_121, sT_122, sT_123, sT_124, sT_125, sT_126, sT_127, sT_128, sT_129, sT_130, sT_131, sT_132, sT_133, sT_134, sT_135, sT_136, sT_137, sT_138, sT_139, sT_140, sR_98_1, sR_98_4, sR_98_5, sR_98_6, sR_98_7, sR_98_8, sR_98_9, sR_98_10, sR_98_12, sR_98_13, sR_98_14, sR_98_15, sR_98_16, sR_98_17, sR_98_18, sR_98_19, sR_98_20, sR_98_21, sR_98_22, sR_98_23, sR_98_24, sR_98_25, sR_98_26, sR_98_27, sR_98_28, sR_98_29, sR_98_31, sR_98_34, sR_98_35, sR_98_36, sR_98_42, sR_98_44, sR_98_45, sR_98_47, sR_98_49, sR_98_51, sR_98_56, sR_98_58, sR_98_62, sR_98_65, sR_98_66, sR_98_69, ep, e1, oI_n]
  | some m =>
    obtain ⟨⟨a, b, ha, hb, -, rfl⟩, -⟩ := pTwo_ok hT
    have hm : 2 ^ a ||| 2 ^ b < 2 ^ 7 := Nat.or_lt_two_pow (Nat.pow_lt_pow_right (by decide) ha) (Nat.pow_lt_pow_right (by decide) hb)
    generalize 2 ^ a ||| 2 ^ b = m at *
    have hq1 := n_m1e (n := m) (by omega)
    obtain ⟨q1, q2, ⟨q3, q4⟩, ⟨q5, q6⟩, ⟨q7, q8⟩, ⟨q9, q10⟩⟩ := RCn_39 rc0 f1
    generalize hbl : cNevers C = bl at *
    have f2 : Fr (fun a k => a = 133 ∨ (a = 98 ∧ k = 50)) h1 (hSetI (hSetI h1 133 bl.length (nI m)) 98 50 (nI (bl.length + 1))) := Fr_trans (Fr_set _ (Or.inl rfl)) (Fr_set _ (Or.inr ⟨rfl, rfl⟩))
    have hs2 : Shape (hSetI h1 133 bl.length (nI m)) := Fr_shape (W := fun _ _ => True) hs1 (Fr_set _ trivial)
    have d48 : hI (hSetI h1 133 bl.length (nI m)) 98 50 = nI bl.length := by rw [hI_setI, if_neg (by omega)]; exact q9
    refine ⟨hSetI (hSetI h1 133 bl.length (nI m)) 98 50 (nI (bl.length + 1)), [.ref 98, .int (nI m), .null], ?_, RP_fr r1 f2 (by intro a k; omega), Fr_trans fl (Fr_mono f2 (by unfold Wln; intro a k; omega)), fun q' hq' => ?_⟩
    · generalize hg : hSetI h1 133 bl.length (nI m) = h2 at *
      simp (disch := first | assumption | omega) [lnX, j_meth, j_out, j_rok, j_pad, lg_sl, s_seq_w, isN_inl, isN_inr, s_if, jb, x_c, x_iloc, x_aloc, x_lloc, x_bin, x_un, o_add, o_sub, o_mul, o_and, o_or, o_xor, o_shl, o_shr, o_ushr, o_max, o_min, o_i2b, o_i2c, o_i2l, o_l2i, x_fld, j_fget, x_idx, j_aget, x_len, j_alen, x_ofb, x_ite, xs_nil, xs_cons, x_callv, x_calls, s_callv, s_calls, j_recv, j_ret, j_retv, b_cmp, b_and, b_or, b_not, b_ofi, b_ite, b_true, s_skip, s_set, j_ty, j_lset, j_kill, s_inc, s_fput, j_fput, s_fop, s_aput, j_aput, j_nar, s_aop, s_ret, s_retv, s_go, s_pop, x_linc, x_finc, Value.category, if_icmp.holds, List.flatMap_cons, List.flatMap_nil, List.length_cons, List.length_append, List.length_nil, List.set_cons_succ, List.set_cons_zero, List.getElem?_cons_succ, List.getElem?_cons_zero, List.replicate, ite_and', ite_or', ite_int', nI_leI, nI_ltI, nI_eq, nI_add, nI_1, pk_mul, nI_clamp, n_in', nI_pos', nI_pos, n_m1e, n_01, n_10, sT_98, sT_99, sT_100, sT_101, sT_102, sT_103, sT_104, sT_105, sT_106, sT_107, sT_108, sT_109, sT_110, sT_111, sT_112, sT_113, sT_114, sT_115, sT_116, sT_117, sT_118, sT_119, sT_120, sT_121, sT_122, sT_123, sT_124, sT_125, sT_126, sT_127, sT_128, sT_129, sT_130, sT_131, sT_132, sT_133, sT_134, sT_135, sT_136, sT_137, sT_138, sT_139, sT_140, sR_98_1, sR_98_4, sR_98_5, sR_98_6, sR_98_7, sR_98_8, sR_98_9, sR_98_10, sR_98_12, sR_98_13, sR_98_14, sR_98_15, sR_98_16, sR_98_17, sR_98_18, sR_98_19, sR_98_20, sR_98_21, sR_98_22, sR_98_23, sR_98_24, sR_98_25, sR_98_26, sR_98_27, sR_98_28, sR_98_29, sR_98_31, sR_98_34, sR_98_35, sR_98_36, sR_98_42, sR_98_44, sR_98_45, sR_98_47, sR_98_49, sR_98_51, sR_98_56, sR_98_58, sR_98_62, sR_98_65, sR_98_66, sR_98_69, ep, e1, oI_s, hq1, q9, hg, d48]
    · simp only [Option.some.injEq] at hq'
      subst hq'
      have e : ∀ a k, a ≠ 133 → ¬ (a = 98 ∧ k = 50) → hI (hSetI (hSetI h1 133 bl.length (nI m)) 98 50 (nI (bl.length + 1))) a k = hI h1 a k := fun a k z1 z2 => Fr_I f2 (by omega)
      refine ⟨by rw [e _ _ (by omega) (by omega)]; exact q1, by rw [e _ _ (by omega) (by omega)]; exact q2, ⟨by rw [e _ _ (by omega) (by omega)]; exact q3, fun k hk => by rw [e _ _ (by omega) (by omega)]; exact q4 k hk⟩, ⟨by rw [e _ _ (by omega) (by omega)]; exact q5, fun k hk => by rw [e _ _ (by omega) (by omega), e _ _ (by omega) (by omega)]; exact q6 k hk⟩, ⟨by rw [e _ _ (by omega) (by omega)]; exact q7, fun k hk => by rw [e _ _ (by omega) (by omega)]; exact q8 k hk⟩, ⟨?_, fun k hk => ?_⟩⟩
      · show hI _ 98 50 = nI (bl ++ [m]).length
        rw [hI_setI, if_pos ⟨rfl, rfl⟩, List.length_append, List.length_singleton]
      · have hk' : k < (bl ++ [m]).length := hk
        rw [List.length_append, List.length_singleton] at hk'
        show hI _ 133 k = nI ((bl ++ [m]).getD k 0)
        rw [getD_app, hI_setI, if_neg (by omega), hI_setI]
        by_cases z : k < bl.length
        · rw [if_pos z, if_neg (by omega)]; exact q10 k z
        · rw [if_neg z, if_pos (by omega), if_pos (by omega)]
def pKep (tx : List Nat) (i : Nat) : Option (Nat × Nat) × Nat := match pDig tx 51 i with
  | none => (none, i)
  | some k => if tg tx (i + 1) = some 42 then (match pDig tx 57 (i + 2) with
    | none => (none, i + 2)
    | some v => (some (k, v), i + 3)) else (none, i + 1)
theorem e_ln_k {tx : List Nat} {i : Nat} {h : jHp} {C : CH} (r : RP tx i h) (hi : i < 2 ^ 29) (rc : RCn C h) (hl : (cKeeps C).length < 30) : ∃ h' L, ln_k ([.ref 98, .null, .null], h) = some (.inr (some (.int (nI (if (pKep tx i).1.isSome then 1 else 0)))), (L, h')) ∧ RP tx (pKep tx i).2 h' ∧ Fr Wln h h' ∧ ∀ m, (pKep tx i).1 = some m → RCn (C.1, C.2.1, C.2.2.1, cKeeps C ++ [m], C.2.2.2.2) h' := by
  obtain ⟨h1, e1, r1, f1⟩ := e_M_digit r (by omega) (t := 51) (by decide)
  have hs := r.1
  have hs1 := r1.1
  have fl : Fr Wln h h1 := Fr_mono f1 (by unfold W39 Wln; intro a k; omega)
  cases c1 : pDig tx 51 i with
  | none =>
    have hT : pKep tx i = (none, i) := by unfold pKep; rw [c1]
    rw [hT]
    rw [c1] at e1 r1
    refine ⟨h1, [.ref 98, .int (-1), .null], ?_, r1, fl, fun q hq => by cases hq⟩
    simp (disch := first | assumption | omega) [ln_k, j_meth, j_out, j_rok, j_pad, lg_sl, s_seq_w, isN_inl, isN_inr, s_if, jb, x_c, x_iloc, x_aloc, x_lloc, x_bin, x_un, o_add, o_sub, o_mul, o_and, o_or, o_xor, o_shl, o_shr, o_ushr, o_max, o_min, o_i2b, o_i2c, o_i2l, o_l2i, x_fld, j_fget, x_idx, j_aget, x_len, j_alen, x_ofb, x_ite, xs_nil, xs_cons, x_callv, x_calls, s_callv, s_calls, j_recv, j_ret, j_retv, b_cmp, b_and, b_or, b_not, b_ofi, b_ite, b_true, s_skip, s_set, j_ty, j_lset, j_kill, s_inc, s_fput, j_fput, s_fop, s_aput, j_aput, j_nar, s_aop, s_ret, s_retv, s_go, s_pop, x_linc, x_finc, Value.category, if_icmp.holds, List.flatMap_cons, List.flatMap_nil, List.length_cons, List.length_append, List.length_nil, List.set_cons_succ, List.set_cons_zero, List.getElem?_cons_succ, List.getElem?_cons_zero, List.replicate, ite_and', ite_or', ite_int', nI_leI, nI_ltI, nI_eq, nI_add, nI_1, pk_mul, nI_clamp, n_in', nI_pos', nI_pos, n_m1e, n_01, n_10, sT_98, sT_99, sT_100, sT_101, sT_102, sT_103, sT_104, sT_105, sT_106, sT_107, sT_108, sT_109, sT_110, sT_111, sT_112, sT_113, sT_114, sT_115, sT_116, sT_117, sT_118, sT_119, sT_120, sT_121, sT_122, sT_123, sT_124, sT_125, sT_126, sT_127, sT_128, sT_129, sT_130, sT_131, sT_132, sT_133, sT_134, sT_135, sT_136, sT_137, sT_138, sT_139, sT_140, sR_98_1, sR_98_4, sR_98_5, sR_98_6, sR_98_7, sR_98_8, sR_98_9, sR_98_10, sR_98_12, sR_98_13, sR_98_14, sR_98_15, sR_98_16, sR_98_17, sR_98_18, sR_98_19, sR_98_20, sR_98_21, sR_98_22, sR_98_23, sR_98_24, sR_98_25, sR_98_26, sR_98_27, sR_98_28, sR_98_29, sR_98_31, sR_98_34, sR_98_35, sR_98_36, sR_98_42, sR_98_44, sR_98_45, sR_98_47, sR_98_49, sR_98_51, sR_98_56, sR_98_58, sR_98_62, sR_98_65, sR_98_66, sR_98_69, e1, oI_n]
  | some k =>
    rw [c1] at e1 r1
    have hk := (pDig_lt c1).1
    have hk1 := n_m1e (n := k) (by omega)
    simp only [Option.isSome_some, if_true] at r1
    obtain ⟨h2, e2, r2, f2⟩ := e_M_passes r1 (by omega) (c := 42) (by decide)
    have fl2 : Fr Wln h h2 := Fr_trans fl (Fr_mono f2 (by unfold W39 Wln; intro a k; omega))
    have hs2 := r2.1
    by_cases c2 : tg tx (i + 1) = some 42
    case neg =>
      have hT : pKep tx i = (none, i + 1) := by unfold pKep; rw [c1]; simp only; rw [if_neg c2]
      rw [hT]
      rw [if_neg c2] at e2 r2
      refine ⟨h2, [.ref 98, .int (nI k), .null], ?_, r2, fl2, fun q hq => by cases hq⟩
      simp (disch := first | assumption | omega) [ln_k, j_meth, j_out, j_rok, j_pad, lg_sl, s_seq_w, isN_inl, isN_inr, s_if, jb, x_c, x_iloc, x_aloc, x_lloc, x_bin, x_un, o_add, o_sub, o_mul, o_and, o_or, o_xor, o_shl, o_shr, o_ushr, o_max, o_min, o_i2b, o_i2c, o_i2l, o_l2i, x_fld, j_fget, x_idx, j_aget, x_len, j_alen, x_ofb, x_ite, xs_nil, xs_cons, x_callv, x_calls, s_callv, s_calls, j_recv, j_ret, j_retv, b_cmp, b_and, b_or, b_not, b_ofi, b_ite, b_true, s_skip, s_set, j_ty, j_lset, j_kill, s_inc, s_fput, j_fput, s_fop, s_aput, j_aput, j_nar, s_aop, s_ret, s_retv, s_go, s_pop, x_linc, x_finc, Value.category, if_icmp.holds, List.flatMap_cons, List.flatMap_nil, List.length_cons, List.length_append, List.length_nil, List.set_cons_succ, List.set_cons_zero, List.getElem?_cons_succ, List.getElem?_cons_zero, List.replicate, ite_and', ite_or', ite_int', nI_leI, nI_ltI, nI_eq, nI_add, nI_1, pk_mul, nI_clamp, n_in', nI_pos', nI_pos, n_m1e, n_01, n_10, sT_98, sT_99, sT_100, sT_101, sT_102, sT_103, sT_104, sT_105, sT_106, sT_107, sT_108, sT_109, sT_110, sT_111, sT_112, sT_113, sT_114, sT_115, sT_116, sT_117, sT_118, sT_119, sT_120, sT_121, sT_122, sT_123, sT_124, sT_125, sT_126, sT_127, sT_128, sT_129, sT_130, sT_131, sT_132, sT_133, sT_134, sT_135, sT_136, sT_137, sT_138, sT_139, sT_140, sR_98_1, sR_98_4, sR_98_5, sR_98_6, sR_98_7, sR_98_8, sR_98_9, sR_98_10, sR_98_12, sR_98_13, sR_98_14, sR_98_15, sR_98_16, sR_98_17, sR_98_18, sR_98_19, sR_98_20, sR_98_21, sR_98_22, sR_98_23, sR_98_24, sR_98_25, sR_98_26, sR_98_27, sR_98_28, sR_98_29, sR_98_31, sR_98_34, sR_98_35, sR_98_36, sR_98_42, sR_98_44, sR_98_45, sR_98_47, sR_98_49, sR_98_51, sR_98_56, sR_98_58, sR_98_62, sR_98_65, sR_98_66, sR_98_69, e1, oI_s, hk1, e2]
    rw [if_pos c2] at e2 r2
    obtain ⟨h3, e3, r3, f3⟩ := e_M_digit r2 (by omega) (t := 57) (by decide)
    have fl3 : Fr Wln h h3 := Fr_trans fl2 (Fr_mono f3 (by unfold W39 Wln; intro a k; omega))
    have hs3 := r3.1
    have hi2 : i + 1 + 1 = i + 2 := rfl
    rw [hi2] at e3 r3
    cases c3 : pDig tx 57 (i + 2) with
    | none =>
      have hT : pKep tx i = (none, i + 2) := by unfold pKep; rw [c1]; simp only; rw [if_pos c2, c3]
      rw [hT]
      rw [c3] at e3 r3
      refine ⟨h3, [.ref 98, .int (nI k), .int (-1)], ?_, r3, fl3, fun q hq => by cases hq⟩
      simp (disch := first | assumption | omega) [ln_k, j_meth, j_out, j_rok, j_pad, lg_sl, s_seq_w, isN_inl, isN_inr, s_if, jb, x_c, x_iloc, x_aloc, x_lloc, x_bin, x_un, o_add, o_sub, o_mul, o_and, o_or, o_xor, o_shl, o_shr, o_ushr, o_max, o_min, o_i2b, o_i2c, o_i2l, o_l2i, x_fld, j_fget, x_idx, j_aget, x_len, j_alen, x_ofb, x_ite, xs_nil, xs_cons, x_callv, x_calls, s_callv, s_calls, j_recv, j_ret, j_retv, b_cmp, b_and, b_or, b_not, b_ofi, b_ite, b_true, s_skip, s_set, j_ty, j_lset, j_kill, s_inc, s_fput, j_fput, s_fop, s_aput, j_aput, j_nar, s_aop, s_ret, s_retv, s_go, s_pop, x_linc, x_finc, Value.category, if_icmp.holds, List.flatMap_cons, List.flatMap_nil, List.length_cons, List.length_append, List.length_nil, List.set_cons_succ, List.set_cons_zero, List.getElem?_cons_succ, List.getElem?_cons_zero, List.replicate, ite_and', ite_or', ite_int', nI_leI, nI_ltI, nI_eq, nI_add, nI_1, pk_mul, nI_clamp, n_in', nI_pos', nI_pos, n_m1e, n_01, n_10, sT_98, sT_99, sT_100, sT_101, sT_102, sT_103, sT_104, sT_105, sT_106, sT_107, sT_108, sT_109, sT_110, sT_111, sT_112, sT_113, sT_114, sT_115, sT_116, sT_117, sT_118, sT_119, sT_120, sT_121, sT_122, sT_123, sT_124, sT_125, sT_126, sT_127, sT_128, sT_129, sT_130, sT_131, sT_132, sT_133, sT_134, sT_135, sT_136, sT_137, sT_138, sT_139, sT_140, sR_98_1, sR_98_4, sR_98_5, sR_98_6, sR_98_7, sR_98_8, sR_98_9, sR_98_10, sR_98_12, sR_98_13, sR_98_14, sR_98_15, sR_98_16, sR_98_17, sR_98_18, sR_98_19, sR_98_20, sR_98_21, sR_98_22, sR_98_23, sR_98_24, sR_98_25, sR_98_26, sR_98_27, sR_98_28, sR_98_29, sR_98_31, sR_98_34, sR_98_35, sR_98_36, sR_98_42, sR_98_44, sR_98_45, sR_98_47, sR_98_49, sR_98_51, sR_98_56, sR_98_58, sR_98_62, sR_98_65, sR_98_66, sR_98_69, e1, oI_s, oI_n, hk1, e2, e3]
    | some v =>
      have hT : pKep tx i = (some (k, v), i + 3) := by unfold pKep; rw [c1]; simp only; rw [if_pos c2, c3]
      rw [hT]
      rw [c3] at e3 r3
      have hv := (pDig_lt c3).1
      have hv1 := n_m1e (n := v) (by omega)
      obtain ⟨q1, q2, ⟨q3, q4⟩, ⟨q5, q6⟩, ⟨q7, q8⟩, ⟨q9, q10⟩⟩ := RCn_39 (RCn_39 (RCn_39 rc f1) f2) f3
      generalize hbl : cKeeps C = bl at *
      have f4 : Fr (fun a k => a = 130 ∨ a = 131 ∨ (a = 98 ∧ k = 46)) h3 (hSetI (hSetI (hSetI h3 130 bl.length (nI k)) 131 bl.length (nI v)) 98 46 (nI (bl.length + 1))) := Fr_trans (Fr_trans (Fr_set _ (Or.inl rfl)) (Fr_set _ (Or.inr (Or.inl rfl)))) (Fr_set _ (Or.inr (Or.inr ⟨rfl, rfl⟩)))
      have hs4 : Shape (hSetI h3 130 bl.length (nI k)) := Fr_shape (W := fun _ _ => True) hs3 (Fr_set _ trivial)
      have hs5 : Shape (hSetI (hSetI h3 130 bl.length (nI k)) 131 bl.length (nI v)) := Fr_shape (W := fun _ _ => True) hs4 (Fr_set _ trivial)
      have d1 : hI (hSetI h3 130 bl.length (nI k)) 98 46 = nI bl.length := by rw [hI_setI, if_neg (by omega)]; exact q5
      have d2 : hI (hSetI (hSetI h3 130 bl.length (nI k)) 131 bl.length (nI v)) 98 46 = nI bl.length := by rw [hI_setI, if_neg (by omega)]; exact d1
      refine ⟨hSetI (hSetI (hSetI h3 130 bl.length (nI k)) 131 bl.length (nI v)) 98 46 (nI (bl.length + 1)), [.ref 98, .int (nI k), .int (nI v)], ?_, RP_fr r3 f4 (by intro a k; omega), Fr_trans fl3 (Fr_mono f4 (by unfold Wln; intro a k; omega)), fun q' hq' => ?_⟩
      · generalize hg : hSetI h3 130 bl.length (nI k) = h4 at *
        generalize hg2 : hSetI h4 131 bl.length (nI v) = h5 at *
        simp (disch := first | assumption | omega) [ln_k, j_meth, j_out, j_rok, j_pad, lg_sl, s_seq_w, isN_inl, isN_inr, s_if, jb, x_c, x_iloc, x_aloc, x_lloc, x_bin, x_un, o_add, o_sub, o_mul, o_and, o_or, o_xor, o_shl, o_shr, o_ushr, o_max, o_min, o_i2b, o_i2c, o_i2l, o_l2i, x_fld, j_fget, x_idx, j_aget, x_len, j_alen, x_ofb, x_ite, xs_nil, xs_cons, x_callv, x_calls, s_callv, s_calls, j_recv, j_ret, j_retv, b_cmp, b_and, b_or, b_not, b_ofi, b_ite, b_true, s_skip, s_set, j_ty, j_lset, j_kill, s_inc, s_fput, j_fput, s_fop, s_aput, j_aput, j_nar, s_aop, s_ret, s_retv, s_go, s_pop, x_linc, x_finc, Value.category, if_icmp.holds, List.flatMap_cons, List.flatMap_nil, List.length_cons, List.length_append, List.length_nil, List.set_cons_succ, List.set_cons_zero, List.getElem?_cons_succ, List.getElem?_cons_zero, List.replicate, ite_and', ite_or', ite_int', nI_leI, nI_ltI, nI_eq, nI_add, nI_1, pk_mul, nI_clamp, n_in', nI_pos', nI_pos, n_m1e, n_01, n_10, sT_98, sT_99, sT_100, sT_101, sT_102, sT_103, sT_104, sT_105, sT_106, sT_107, sT_108, sT_109, sT_110, sT_111, sT_112, sT_113, sT_114, sT_115, sT_116, sT_117, sT_118, sT_119, sT_120, sT_121, sT_122, sT_123, sT_124, sT_125, sT_126, sT_127, sT_128, sT_129, sT_130, sT_131, sT_132, sT_133, sT_134, sT_135, sT_136, sT_137, sT_138, sT_139, sT_140, sR_98_1, sR_98_4, sR_98_5, sR_98_6, sR_98_7, sR_98_8, sR_98_9, sR_98_10, sR_98_12, sR_98_13, sR_98_14, sR_98_15, sR_98_16, sR_98_17, sR_98_18, sR_98_19, sR_98_20, sR_98_21, sR_98_22, sR_98_23, sR_98_24, sR_98_25, sR_98_26, sR_98_27, sR_98_28, sR_98_29, sR_98_31, sR_98_34, sR_98_35, sR_98_36, sR_98_42, sR_98_44, sR_98_45, sR_98_47, sR_98_49, sR_98_51, sR_98_56, sR_98_58, sR_98_62, sR_98_65, sR_98_66, sR_98_69, e1, oI_s, hk1, e2, e3, hv1, q5, hg, d1, hg2, d2]
      · simp only [Option.some.injEq] at hq'
        subst hq'
        have e : ∀ a k', a ≠ 130 → a ≠ 131 → ¬ (a = 98 ∧ k' = 46) → hI (hSetI (hSetI (hSetI h3 130 bl.length (nI k)) 131 bl.length (nI v)) 98 46 (nI (bl.length + 1))) a k' = hI h3 a k' := fun a k z1 z2 z3 => Fr_I f4 (by omega)
        refine ⟨by rw [e _ _ (by omega) (by omega) (by omega)]; exact q1, by rw [e _ _ (by omega) (by omega) (by omega)]; exact q2, ⟨by rw [e _ _ (by omega) (by omega) (by omega)]; exact q3, fun k hk => by rw [e _ _ (by omega) (by omega) (by omega)]; exact q4 k hk⟩, ⟨?_, fun j hj => ?_⟩, ⟨by rw [e _ _ (by omega) (by omega) (by omega)]; exact q7, fun k hk => by rw [e _ _ (by omega) (by omega) (by omega)]; exact q8 k hk⟩, ⟨by rw [e _ _ (by omega) (by omega) (by omega)]; exact q9, fun k hk => by rw [e _ _ (by omega) (by omega) (by omega)]; exact q10 k hk⟩⟩
        · show hI _ 98 46 = nI (bl ++ [(k, v)]).length
          rw [hI_setI, if_pos ⟨rfl, rfl⟩, List.length_append, List.length_singleton]
        · have hj' : j < (bl ++ [(k, v)]).length := hj
          rw [List.length_append, List.length_singleton] at hj'
          show hI _ 130 j = nI ((bl ++ [(k, v)]).getD j (0, 0)).1 ∧ hI _ 131 j = nI ((bl ++ [(k, v)]).getD j (0, 0)).2
          have g130 : hI (hSetI (hSetI (hSetI h3 130 bl.length (nI k)) 131 bl.length (nI v)) 98 46 (nI (bl.length + 1))) 130 j = if j = bl.length then nI k else hI h3 130 j := by simp [hI_setI]
          have g131 : hI (hSetI (hSetI (hSetI h3 130 bl.length (nI k)) 131 bl.length (nI v)) 98 46 (nI (bl.length + 1))) 131 j = if j = bl.length then nI v else hI h3 131 j := by simp [hI_setI]
          rw [g130, g131, getD_app]
          by_cases z : j < bl.length
          · rw [if_pos z, if_neg (by omega), if_neg (by omega)]; exact q6 j z
          · rw [if_neg z, if_pos (by omega), if_pos (by omega), if_pos (by omega)]; exact ⟨rfl, rfl⟩

theorem pKey_pos {tx : List Nat} {i j : Nat} {o : Option (Nat × Bool)} (h : pKey tx i = (o, j)) : i ≤ j ∧ j ≤ i + 2 ∧ (o.isSome = true → j = i + 2 ∧ i + 1 < 60) := by
  unfold pKey at h
  split at h
  · cases hl : (tg tx (i + 1)).bind ltI with
    | none => rw [hl] at h; cases h; exact ⟨by omega, by omega, fun q => by cases q⟩
    | some k =>
      rw [hl] at h; cases h
      refine ⟨by omega, by omega, fun _ => ⟨rfl, ?_⟩⟩
      cases ho : tg tx (i + 1) with
      | none => rw [ho] at hl; cases hl
      | some b =>
        unfold tg at ho
        split at ho
        · rename_i q; exact q.2
        · cases ho
  · cases h; exact ⟨by omega, by omega, fun q => by cases q⟩
theorem e_ln_r1 {tx : List Nat} : ∀ n i (h : jHp) (ks : List (Nat × Bool)), ks.length + n = 5 → i < 2 ^ 29 → RP tx i h → RKs ks h → ∃ h', RP tx (pKs tx n i ks).2 h' ∧ Fr Wky h h' ∧ (match (pKs tx n i ks).1 with
    | some ks' => RKs ks' h' ∧ s_loop 1 2 lc_M_line_1 lb_M_line_1 lu_M_line_1 ([.ref 98, .null, .null], h) = some (.inl 0, ([.ref 98, .null, .null], h'))
    | none => s_loop 1 2 lc_M_line_1 lb_M_line_1 lu_M_line_1 ([.ref 98, .null, .null], h) = some (.inr (some (.int (nI 0))), ([.ref 98, .null, .null], h'))) := by
  intro n
  induction n with
  | zero =>
    intro i h ks hl hi r rk
    have hs := r.1
    have c43 := rk.1
    have h5 : ks.length = 5 := by omega
    rw [h5] at c43
    have h55 : ¬ nI 5 < nI 5 := by decide
    exact ⟨h, r, Fr_refl _ _, rk, s_loop_inr (by simp (disch := first | assumption | omega) [lstp, lc_M_line_1, lb_M_line_1, lu_M_line_1, j_meth, j_out, j_rok, j_pad, lg_sl, s_seq_w, isN_inl, isN_inr, s_if, jb, x_c, x_iloc, x_aloc, x_lloc, x_bin, x_un, o_add, o_sub, o_mul, o_and, o_or, o_xor, o_shl, o_shr, o_ushr, o_max, o_min, o_i2b, o_i2c, o_i2l, o_l2i, x_fld, j_fget, x_idx, j_aget, x_len, j_alen, x_ofb, x_ite, xs_nil, xs_cons, x_callv, x_calls, s_callv, s_calls, j_recv, j_ret, j_retv, b_cmp, b_and, b_or, b_not, b_ofi, b_ite, b_true, s_skip, s_set, j_ty, j_lset, j_kill, s_inc, s_fput, j_fput, s_fop, s_aput, j_aput, j_nar, s_aop, s_ret, s_retv, s_go, s_pop, x_linc, x_finc, Value.category, if_icmp.holds, List.flatMap_cons, List.flatMap_nil, List.length_cons, List.length_append, List.length_nil, List.set_cons_succ, List.set_cons_zero, List.getElem?_cons_succ, List.getElem?_cons_zero, List.replicate, ite_and', ite_or', ite_int', nI_leI, nI_ltI, nI_eq, nI_add, nI_1, pk_mul, nI_clamp, n_in', nI_pos', nI_pos, n_m1e, n_01, n_10, sT_98, sT_99, sT_100, sT_101, sT_102, sT_103, sT_104, sT_105, sT_106, sT_107, sT_108, sT_109, sT_110, sT_111, sT_112, sT_113, sT_114, sT_115, sT_116, sT_117, sT_118, sT_119, sT_120, sT_121, sT_122, sT_123, sT_124, sT_125, sT_126, sT_127, sT_128, sT_129, sT_130, sT_131, sT_132, sT_133, sT_134, sT_135, sT_136, sT_137, sT_138, sT_139, sT_140, sR_98_1, sR_98_4, sR_98_5, sR_98_6, sR_98_7, sR_98_8, sR_98_9, sR_98_10, sR_98_12, sR_98_13, sR_98_14, sR_98_15, sR_98_16, sR_98_17, sR_98_18, sR_98_19, sR_98_20, sR_98_21, sR_98_22, sR_98_23, sR_98_24, sR_98_25, sR_98_26, sR_98_27, sR_98_28, sR_98_29, sR_98_31, sR_98_34, sR_98_35, sR_98_36, sR_98_42, sR_98_44, sR_98_45, sR_98_47, sR_98_49, sR_98_51, sR_98_56, sR_98_58, sR_98_62, sR_98_65, sR_98_66, sR_98_69, c43, h55])⟩
  | succ n ih =>
    intro i h ks hl hi r rk
    have hs := r.1
    have c43 := rk.1
    have e1 := e_M_here r (by omega)
    have hp := hv_c (o := tg tx i) (fun b hb => (tg_256 r.2.1.2 hb).1) (c := 43) (by decide)
    have hm := hv_c (o := tg tx i) (fun b hb => (tg_256 r.2.1.2 hb).1) (c := 45) (by decide)
    have hlt : ks.length < 5 := by omega
    by_cases hpm : isPM (tg tx i) = true
    case neg =>
      have hK : pKs tx (n + 1) i ks = (some ks, i) := by unfold pKs; rw [if_neg hpm]
      rw [hK]
      have h1 : ¬ hv (tg tx i) = nI 43 := by rw [hp]; intro q; exact hpm (by simp [isPM, q])
      have h2 : ¬ hv (tg tx i) = nI 45 := by rw [hm]; intro q; exact hpm (by simp [isPM, q])
      exact ⟨h, r, Fr_refl _ _, rk, s_loop_inr (by simp (disch := first | assumption | omega) [lstp, lc_M_line_1, lb_M_line_1, lu_M_line_1, j_meth, j_out, j_rok, j_pad, lg_sl, s_seq_w, isN_inl, isN_inr, s_if, jb, x_c, x_iloc, x_aloc, x_lloc, x_bin, x_un, o_add, o_sub, o_mul, o_and, o_or, o_xor, o_shl, o_shr, o_ushr, o_max, o_min, o_i2b, o_i2c, o_i2l, o_l2i, x_fld, j_fget, x_idx, j_aget, x_len, j_alen, x_ofb, x_ite, xs_nil, xs_cons, x_callv, x_calls, s_callv, s_calls, j_recv, j_ret, j_retv, b_cmp, b_and, b_or, b_not, b_ofi, b_ite, b_true, s_skip, s_set, j_ty, j_lset, j_kill, s_inc, s_fput, j_fput, s_fop, s_aput, j_aput, j_nar, s_aop, s_ret, s_retv, s_go, s_pop, x_linc, x_finc, Value.category, if_icmp.holds, List.flatMap_cons, List.flatMap_nil, List.length_cons, List.length_append, List.length_nil, List.set_cons_succ, List.set_cons_zero, List.getElem?_cons_succ, List.getElem?_cons_zero, List.replicate, ite_and', ite_or', ite_int', nI_leI, nI_ltI, nI_eq, nI_add, nI_1, pk_mul, nI_clamp, n_in', nI_pos', nI_pos, n_m1e, n_01, n_10, sT_98, sT_99, sT_100, sT_101, sT_102, sT_103, sT_104, sT_105, sT_106, sT_107, sT_108, sT_109, sT_110, sT_111, sT_112, sT_113, sT_114, sT_115, sT_116, sT_117, sT_118, sT_119, sT_120, sT_121, sT_122, sT_123, sT_124, sT_125, sT_126, sT_127, sT_128, sT_129, sT_130, sT_131, sT_132, sT_133, sT_134, sT_135, sT_136, sT_137, sT_138, sT_139, sT_140, sR_98_1, sR_98_4, sR_98_5, sR_98_6, sR_98_7, sR_98_8, sR_98_9, sR_98_10, sR_98_12, sR_98_13, sR_98_14, sR_98_15, sR_98_16, sR_98_17, sR_98_18, sR_98_19, sR_98_20, sR_98_21, sR_98_22, sR_98_23, sR_98_24, sR_98_25, sR_98_26, sR_98_27, sR_98_28, sR_98_29, sR_98_31, sR_98_34, sR_98_35, sR_98_36, sR_98_42, sR_98_44, sR_98_45, sR_98_47, sR_98_49, sR_98_51, sR_98_56, sR_98_58, sR_98_62, sR_98_65, sR_98_66, sR_98_69, c43, hlt, e1, h1, h2])⟩
    have hval : hv (tg tx i) = nI 43 ∨ hv (tg tx i) = nI 45 := by
      rw [hp, hm]
      simpa [isPM] using hpm
    obtain ⟨h1, e2, r1, f1, g1⟩ := e_M_key r (by omega) rk hlt
    cases hK : pKey tx i with
    | mk o j =>
      have hpos := pKey_pos hK
      rw [hK] at e2 r1 g1
      simp only at e2 r1 g1
      cases o with
      | none =>
        have hK2 : pKs tx (n + 1) i ks = (none, j) := by simp only [pKs, hpm, if_true, hK]
        rw [hK2]
        refine ⟨h1, r1, f1, s_loop_inr ?_⟩
        rcases hval with q | q
        · rw [q] at e1; simp (disch := first | assumption | omega) [lstp, lc_M_line_1, lb_M_line_1, lu_M_line_1, j_meth, j_out, j_rok, j_pad, lg_sl, s_seq_w, isN_inl, isN_inr, s_if, jb, x_c, x_iloc, x_aloc, x_lloc, x_bin, x_un, o_add, o_sub, o_mul, o_and, o_or, o_xor, o_shl, o_shr, o_ushr, o_max, o_min, o_i2b, o_i2c, o_i2l, o_l2i, x_fld, j_fget, x_idx, j_aget, x_len, j_alen, x_ofb, x_ite, xs_nil, xs_cons, x_callv, x_calls, s_callv, s_calls, j_recv, j_ret, j_retv, b_cmp, b_and, b_or, b_not, b_ofi, b_ite, b_true, s_skip, s_set, j_ty, j_lset, j_kill, s_inc, s_fput, j_fput, s_fop, s_aput, j_aput, j_nar, s_aop, s_ret, s_retv, s_go, s_pop, x_linc, x_finc, Value.category, if_icmp.holds, List.flatMap_cons, List.flatMap_nil, List.length_cons, List.length_append, List.length_nil, List.set_cons_succ, List.set_cons_zero, List.getElem?_cons_succ, List.getElem?_cons_zero, List.replicate, ite_and', ite_or', ite_int', nI_leI, nI_ltI, nI_eq, nI_add, nI_1, pk_mul, nI_clamp, n_in', nI_pos', nI_pos, n_m1e, n_01, n_10, sT_98, sT_99, sT_100, sT_101, sT_102, sT_103, sT_104, sT_105, sT_106, sT_107, sT_108, sT_109, sT_110, sT_111, sT_112, sT_113, sT_114, sT_115, sT_116, sT_117, sT_118, sT_119, sT_120, sT_121, sT_122, sT_123, sT_124, sT_125, sT_126, sT_127, sT_128, sT_129, sT_130, sT_131, sT_132, sT_133, sT_134, sT_135, sT_136, sT_137, sT_138, sT_139, sT_140, sR_98_1, sR_98_4, sR_98_5, sR_98_6, sR_98_7, sR_98_8, sR_98_9, sR_98_10, sR_98_12, sR_98_13, sR_98_14, sR_98_15, sR_98_16, sR_98_17, sR_98_18, sR_98_19, sR_98_20, sR_98_21, sR_98_22, sR_98_23, sR_98_24, sR_98_25, sR_98_26, sR_98_27, sR_98_28, sR_98_29, sR_98_31, sR_98_34, sR_98_35, sR_98_36, sR_98_42, sR_98_44, sR_98_45, sR_98_47, sR_98_49, sR_98_51, sR_98_56, sR_98_58, sR_98_62, sR_98_65, sR_98_66, sR_98_69, c43, hlt, e1, e2]
        · rw [q] at e1; simp (disch := first | assumption | omega) [lstp, lc_M_line_1, lb_M_line_1, lu_M_line_1, j_meth, j_out, j_rok, j_pad, lg_sl, s_seq_w, isN_inl, isN_inr, s_if, jb, x_c, x_iloc, x_aloc, x_lloc, x_bin, x_un, o_add, o_sub, o_mul, o_and, o_or, o_xor, o_shl, o_shr, o_ushr, o_max, o_min, o_i2b, o_i2c, o_i2l, o_l2i, x_fld, j_fget, x_idx, j_aget, x_len, j_alen, x_ofb, x_ite, xs_nil, xs_cons, x_callv, x_calls, s_callv, s_calls, j_recv, j_ret, j_retv, b_cmp, b_and, b_or, b_not, b_ofi, b_ite, b_true, s_skip, s_set, j_ty, j_lset, j_kill, s_inc, s_fput, j_fput, s_fop, s_aput, j_aput, j_nar, s_aop, s_ret, s_retv, s_go, s_pop, x_linc, x_finc, Value.category, if_icmp.holds, List.flatMap_cons, List.flatMap_nil, List.length_cons, List.length_append, List.length_nil, List.set_cons_succ, List.set_cons_zero, List.getElem?_cons_succ, List.getElem?_cons_zero, List.replicate, ite_and', ite_or', ite_int', nI_leI, nI_ltI, nI_eq, nI_add, nI_1, pk_mul, nI_clamp, n_in', nI_pos', nI_pos, n_m1e, n_01, n_10, sT_98, sT_99, sT_100, sT_101, sT_102, sT_103, sT_104, sT_105, sT_106, sT_107, sT_108, sT_109, sT_110, sT_111, sT_112, sT_113, sT_114, sT_115, sT_116, sT_117, sT_118, sT_119, sT_120, sT_121, sT_122, sT_123, sT_124, sT_125, sT_126, sT_127, sT_128, sT_129, sT_130, sT_131, sT_132, sT_133, sT_134, sT_135, sT_136, sT_137, sT_138, sT_139, sT_140, sR_98_1, sR_98_4, sR_98_5, sR_98_6, sR_98_7, sR_98_8, sR_98_9, sR_98_10, sR_98_12, sR_98_13, sR_98_14, sR_98_15, sR_98_16, sR_98_17, sR_98_18, sR_98_19, sR_98_20, sR_98_21, sR_98_22, sR_98_23, sR_98_24, sR_98_25, sR_98_26, sR_98_27, sR_98_28, sR_98_29, sR_98_31, sR_98_34, sR_98_35, sR_98_36, sR_98_42, sR_98_44, sR_98_45, sR_98_47, sR_98_49, sR_98_51, sR_98_56, sR_98_58, sR_98_62, sR_98_65, sR_98_66, sR_98_69, c43, hlt, e1, e2]
      | some k =>
        have hK2 : pKs tx (n + 1) i ks = pKs tx n j (ks ++ [k]) := by simp only [pKs, hpm, if_true, hK]
        rw [hK2]
        obtain ⟨rk1, -⟩ := g1 k rfl
        obtain ⟨h2, r2, f2, g2⟩ := ih j h1 (ks ++ [k]) (by rw [List.length_append, List.length_singleton]; omega) (by have := (hpos.2.2 rfl).2; omega) r1 rk1
        have hst : lstp 1 2 lc_M_line_1 lb_M_line_1 lu_M_line_1 ([.ref 98, .null, .null], h) = some (.inl ([.ref 98, .null, .null], h1)) := by
          rcases hval with q | q
          · rw [q] at e1; simp (disch := first | assumption | omega) [lstp, lc_M_line_1, lb_M_line_1, lu_M_line_1, j_meth, j_out, j_rok, j_pad, lg_sl, s_seq_w, isN_inl, isN_inr, s_if, jb, x_c, x_iloc, x_aloc, x_lloc, x_bin, x_un, o_add, o_sub, o_mul, o_and, o_or, o_xor, o_shl, o_shr, o_ushr, o_max, o_min, o_i2b, o_i2c, o_i2l, o_l2i, x_fld, j_fget, x_idx, j_aget, x_len, j_alen, x_ofb, x_ite, xs_nil, xs_cons, x_callv, x_calls, s_callv, s_calls, j_recv, j_ret, j_retv, b_cmp, b_and, b_or, b_not, b_ofi, b_ite, b_true, s_skip, s_set, j_ty, j_lset, j_kill, s_inc, s_fput, j_fput, s_fop, s_aput, j_aput, j_nar, s_aop, s_ret, s_retv, s_go, s_pop, x_linc, x_finc, Value.category, if_icmp.holds, List.flatMap_cons, List.flatMap_nil, List.length_cons, List.length_append, List.length_nil, List.set_cons_succ, List.set_cons_zero, List.getElem?_cons_succ, List.getElem?_cons_zero, List.replicate, ite_and', ite_or', ite_int', nI_leI, nI_ltI, nI_eq, nI_add, nI_1, pk_mul, nI_clamp, n_in', nI_pos', nI_pos, n_m1e, n_01, n_10, sT_98, sT_99, sT_100, sT_101, sT_102, sT_103, sT_104, sT_105, sT_106, sT_107, sT_108, sT_109, sT_110, sT_111, sT_112, sT_113, sT_114, sT_115, sT_116, sT_117, sT_118, sT_119, sT_120, sT_121, sT_122, sT_123, sT_124, sT_125, sT_126, sT_127, sT_128, sT_129, sT_130, sT_131, sT_132, sT_133, sT_134, sT_135, sT_136, sT_137, sT_138, sT_139, sT_140, sR_98_1, sR_98_4, sR_98_5, sR_98_6, sR_98_7, sR_98_8, sR_98_9, sR_98_10, sR_98_12, sR_98_13, sR_98_14, sR_98_15, sR_98_16, sR_98_17, sR_98_18, sR_98_19, sR_98_20, sR_98_21, sR_98_22, sR_98_23, sR_98_24, sR_98_25, sR_98_26, sR_98_27, sR_98_28, sR_98_29, sR_98_31, sR_98_34, sR_98_35, sR_98_36, sR_98_42, sR_98_44, sR_98_45, sR_98_47, sR_98_49, sR_98_51, sR_98_56, sR_98_58, sR_98_62, sR_98_65, sR_98_66, sR_98_69, c43, hlt, e1, e2]
          · rw [q] at e1; simp (disch := first | assumption | omega) [lstp, lc_M_line_1, lb_M_line_1, lu_M_line_1, j_meth, j_out, j_rok, j_pad, lg_sl, s_seq_w, isN_inl, isN_inr, s_if, jb, x_c, x_iloc, x_aloc, x_lloc, x_bin, x_un, o_add, o_sub, o_mul, o_and, o_or, o_xor, o_shl, o_shr, o_ushr, o_max, o_min, o_i2b, o_i2c, o_i2l, o_l2i, x_fld, j_fget, x_idx, j_aget, x_len, j_alen, x_ofb, x_ite, xs_nil, xs_cons, x_callv, x_calls, s_callv, s_calls, j_recv, j_ret, j_retv, b_cmp, b_and, b_or, b_not, b_ofi, b_ite, b_true, s_skip, s_set, j_ty, j_lset, j_kill, s_inc, s_fput, j_fput, s_fop, s_aput, j_aput, j_nar, s_aop, s_ret, s_retv, s_go, s_pop, x_linc, x_finc, Value.category, if_icmp.holds, List.flatMap_cons, List.flatMap_nil, List.length_cons, List.length_append, List.length_nil, List.set_cons_succ, List.set_cons_zero, List.getElem?_cons_succ, List.getElem?_cons_zero, List.replicate, ite_and', ite_or', ite_int', nI_leI, nI_ltI, nI_eq, nI_add, nI_1, pk_mul, nI_clamp, n_in', nI_pos', nI_pos, n_m1e, n_01, n_10, sT_98, sT_99, sT_100, sT_101, sT_102, sT_103, sT_104, sT_105, sT_106, sT_107, sT_108, sT_109, sT_110, sT_111, sT_112, sT_113, sT_114, sT_115, sT_116, sT_117, sT_118, sT_119, sT_120, sT_121, sT_122, sT_123, sT_124, sT_125, sT_126, sT_127, sT_128, sT_129, sT_130, sT_131, sT_132, sT_133, sT_134, sT_135, sT_136, sT_137, sT_138, sT_139, sT_140, sR_98_1, sR_98_4, sR_98_5, sR_98_6, sR_98_7, sR_98_8, sR_98_9, sR_98_10, sR_98_12, sR_98_13, sR_98_14, sR_98_15, sR_98_16, sR_98_17, sR_98_18, sR_98_19, sR_98_20, sR_98_21, sR_98_22, sR_98_23, sR_98_24, sR_98_25, sR_98_26, sR_98_27, sR_98_28, sR_98_29, sR_98_31, sR_98_34, sR_98_35, sR_98_36, sR_98_42, sR_98_44, sR_98_45, sR_98_47, sR_98_49, sR_98_51, sR_98_56, sR_98_58, sR_98_62, sR_98_65, sR_98_66, sR_98_69, c43, hlt, e1, e2]
        refine ⟨h2, r2, Fr_trans f1 f2, ?_⟩
        cases hz : (pKs tx n j (ks ++ [k])).1 with
        | none => rw [hz] at g2; exact s_loop_inl hst g2
        | some ks' => rw [hz] at g2; exact ⟨g2.1, s_loop_inl hst g2.2⟩
def pKyA (tx : List Nat) (i : Nat) : Option (List (Nat × Bool)) × Nat := match pKey tx i with
  | (none, j) => (none, j)
  | (some k, j) => pKs tx 4 j [k]
theorem e_ln_r {tx : List Nat} {i : Nat} {h : jHp} {C : CH} (r : RP tx i h) (hi : i < 2 ^ 28) (rc : RCn C h) : ∃ h' L, ln_r ([.ref 98, .null, .null], h) = some (.inr (some (.int (nI (if (pKyA tx i).1.isSome then 1 else 0)))), (L, h')) ∧ RP tx (pKyA tx i).2 h' ∧ Fr Wln h h' ∧ ∀ ks, (pKyA tx i).1 = some ks → RCn (C.1, C.2.1, ks, C.2.2.2) h' := by
  have hs := r.1
  have f0 : Fr (fun a k => a = 98 ∧ k = 43) h (hSetI h 98 43 (nI 0)) := Fr_set _ ⟨rfl, rfl⟩
  have r0 := RP_fr r f0 (by intro a k; omega)
  have rk0 : RKs [] (hSetI h 98 43 (nI 0)) := ⟨by rw [hI_setI, if_pos ⟨rfl, rfl⟩]; rfl, fun k hk => by simp at hk⟩
  have hs0 := r0.1
  generalize hh0 : hSetI h 98 43 (nI 0) = h0 at *
  obtain ⟨h1, e1, r1, f1, g1⟩ := e_M_key r0 (by omega) rk0 (by decide)
  have hs1 := r1.1
  have fl : Fr Wln h h1 := Fr_trans (Fr_mono f0 (by unfold Wln; intro a k; omega)) (Fr_mono f1 (by unfold Wky Wln; intro a k; omega))
  unfold pKyA
  cases hK : pKey tx i with
  | mk o j =>
    have hpos := pKey_pos hK
    rw [hK] at e1 r1 g1
    simp only at e1 r1 g1 ⊢
    cases o with
    | none =>
      refine ⟨h1, [.ref 98, .null, .null], ?_, r1, fl, fun q hq => by cases hq⟩
      simp (disch := first | assumption | omega) [ln_r, j_meth, j_out, j_rok, j_pad, lg_sl, s_seq_w, isN_inl, isN_inr, s_if, jb, x_c, x_iloc, x_aloc, x_lloc, x_bin, x_un, o_add, o_sub, o_mul, o_and, o_or, o_xor, o_shl, o_shr, o_ushr, o_max, o_min, o_i2b, o_i2c, o_i2l, o_l2i, x_fld, j_fget, x_idx, j_aget, x_len, j_alen, x_ofb, x_ite, xs_nil, xs_cons, x_callv, x_calls, s_callv, s_calls, j_recv, j_ret, j_retv, b_cmp, b_and, b_or, b_not, b_ofi, b_ite, b_true, s_skip, s_set, j_ty, j_lset, j_kill, s_inc, s_fput, j_fput, s_fop, s_aput, j_aput, j_nar, s_aop, s_ret, s_retv, s_go, s_pop, x_linc, x_finc, Value.category, if_icmp.holds, List.flatMap_cons, List.flatMap_nil, List.length_cons, List.length_append, List.length_nil, List.set_cons_succ, List.set_cons_zero, List.getElem?_cons_succ, List.getElem?_cons_zero, List.replicate, ite_and', ite_or', ite_int', nI_leI, nI_ltI, nI_eq, nI_add, nI_1, pk_mul, nI_clamp, n_in', nI_pos', nI_pos, n_m1e, n_01, n_10, sT_98, sT_99, sT_100, sT_101, sT_102, sT_103, sT_104, sT_105, sT_106, sT_107, sT_108, sT_109, sT_110, sT_111, sT_112, sT_113, sT_114, sT_115, sT_116, sT_117, sT_118, sT_119, sT_120, sT_121, sT_122, sT_123, sT_124, sT_125, sT_126, sT_127, sT_128, sT_129, sT_130, sT_131, sT_132, sT_133, sT_134, sT_135, sT_136, sT_137, sT_138, sT_139, sT_140, sR_98_1, sR_98_4, sR_98_5, sR_98_6, sR_98_7, sR_98_8, sR_98_9, sR_98_10, sR_98_12, sR_98_13, sR_98_14, sR_98_15, sR_98_16, sR_98_17, sR_98_18, sR_98_19, sR_98_20, sR_98_21, sR_98_22, sR_98_23, sR_98_24, sR_98_25, sR_98_26, sR_98_27, sR_98_28, sR_98_29, sR_98_31, sR_98_34, sR_98_35, sR_98_36, sR_98_42, sR_98_44, sR_98_45, sR_98_47, sR_98_49, sR_98_51, sR_98_56, sR_98_58, sR_98_62, sR_98_65, sR_98_66, sR_98_69, hh0, e1]
    | some k =>
      obtain ⟨rk1, -⟩ := g1 k rfl
      simp only [List.nil_append] at rk1
      obtain ⟨h2, r2, f2, g2⟩ := e_ln_r1 (tx := tx) 4 j h1 [k] (by rfl) (by have := (hpos.2.2 rfl).2; omega) r1 rk1
      have fl2 : Fr Wln h h2 := Fr_trans fl (Fr_mono f2 (by unfold Wky Wln; intro a k; omega))
      have ff : Fr Wky h h2 := Fr_trans (Fr_mono f0 (by unfold Wky; intro a k; omega)) (Fr_trans f1 f2)
      refine ⟨h2, [.ref 98, .null, .null], ?_, r2, fl2, fun ks hks => ?_⟩
      · cases hz : (pKs tx 4 j [k]).1 with
        | none => rw [hz] at g2; simp only at g2; simp (disch := first | assumption | omega) [ln_r, j_meth, j_out, j_rok, j_pad, lg_sl, s_seq_w, isN_inl, isN_inr, s_if, jb, x_c, x_iloc, x_aloc, x_lloc, x_bin, x_un, o_add, o_sub, o_mul, o_and, o_or, o_xor, o_shl, o_shr, o_ushr, o_max, o_min, o_i2b, o_i2c, o_i2l, o_l2i, x_fld, j_fget, x_idx, j_aget, x_len, j_alen, x_ofb, x_ite, xs_nil, xs_cons, x_callv, x_calls, s_callv, s_calls, j_recv, j_ret, j_retv, b_cmp, b_and, b_or, b_not, b_ofi, b_ite, b_true, s_skip, s_set, j_ty, j_lset, j_kill, s_inc, s_fput, j_fput, s_fop, s_aput, j_aput, j_nar, s_aop, s_ret, s_retv, s_go, s_pop, x_linc, x_finc, Value.category, if_icmp.holds, List.flatMap_cons, List.flatMap_nil, List.length_cons, List.length_append, List.length_nil, List.set_cons_succ, List.set_cons_zero, List.getElem?_cons_succ, List.getElem?_cons_zero, List.replicate, ite_and', ite_or', ite_int', nI_leI, nI_ltI, nI_eq, nI_add, nI_1, pk_mul, nI_clamp, n_in', nI_pos', nI_pos, n_m1e, n_01, n_10, sT_98, sT_99, sT_100, sT_101, sT_102, sT_103, sT_104, sT_105, sT_106, sT_107, sT_108, sT_109, sT_110, sT_111, sT_112, sT_113, sT_114, sT_115, sT_116, sT_117, sT_118, sT_119, sT_120, sT_121, sT_122, sT_123, sT_124, sT_125, sT_126, sT_127, sT_128, sT_129, sT_130, sT_131, sT_132, sT_133, sT_134, sT_135, sT_136, sT_137, sT_138, sT_139, sT_140, sR_98_1, sR_98_4, sR_98_5, sR_98_6, sR_98_7, sR_98_8, sR_98_9, sR_98_10, sR_98_12, sR_98_13, sR_98_14, sR_98_15, sR_98_16, sR_98_17, sR_98_18, sR_98_19, sR_98_20, sR_98_21, sR_98_22, sR_98_23, sR_98_24, sR_98_25, sR_98_26, sR_98_27, sR_98_28, sR_98_29, sR_98_31, sR_98_34, sR_98_35, sR_98_36, sR_98_42, sR_98_44, sR_98_45, sR_98_47, sR_98_49, sR_98_51, sR_98_56, sR_98_58, sR_98_62, sR_98_65, sR_98_66, sR_98_69, hh0, e1, g2]
        | some ks => rw [hz] at g2; simp only at g2; simp (disch := first | assumption | omega) [ln_r, j_meth, j_out, j_rok, j_pad, lg_sl, s_seq_w, isN_inl, isN_inr, s_if, jb, x_c, x_iloc, x_aloc, x_lloc, x_bin, x_un, o_add, o_sub, o_mul, o_and, o_or, o_xor, o_shl, o_shr, o_ushr, o_max, o_min, o_i2b, o_i2c, o_i2l, o_l2i, x_fld, j_fget, x_idx, j_aget, x_len, j_alen, x_ofb, x_ite, xs_nil, xs_cons, x_callv, x_calls, s_callv, s_calls, j_recv, j_ret, j_retv, b_cmp, b_and, b_or, b_not, b_ofi, b_ite, b_true, s_skip, s_set, j_ty, j_lset, j_kill, s_inc, s_fput, j_fput, s_fop, s_aput, j_aput, j_nar, s_aop, s_ret, s_retv, s_go, s_pop, x_linc, x_finc, Value.category, if_icmp.holds, List.flatMap_cons, List.flatMap_nil, List.length_cons, List.length_append, List.length_nil, List.set_cons_succ, List.set_cons_zero, List.getElem?_cons_succ, List.getElem?_cons_zero, List.replicate, ite_and', ite_or', ite_int', nI_leI, nI_ltI, nI_eq, nI_add, nI_1, pk_mul, nI_clamp, n_in', nI_pos', nI_pos, n_m1e, n_01, n_10, sT_98, sT_99, sT_100, sT_101, sT_102, sT_103, sT_104, sT_105, sT_106, sT_107, sT_108, sT_109, sT_110, sT_111, sT_112, sT_113, sT_114, sT_115, sT_116, sT_117, sT_118, sT_119, sT_120, sT_121, sT_122, sT_123, sT_124, sT_125, sT_126, sT_127, sT_128, sT_129, sT_130, sT_131, sT_132, sT_133, sT_134, sT_135, sT_136, sT_137, sT_138, sT_139, sT_140, sR_98_1, sR_98_4, sR_98_5, sR_98_6, sR_98_7, sR_98_8, sR_98_9, sR_98_10, sR_98_12, sR_98_13, sR_98_14, sR_98_15, sR_98_16, sR_98_17, sR_98_18, sR_98_19, sR_98_20, sR_98_21, sR_98_22, sR_98_23, sR_98_24, sR_98_25, sR_98_26, sR_98_27, sR_98_28, sR_98_29, sR_98_31, sR_98_34, sR_98_35, sR_98_36, sR_98_42, sR_98_44, sR_98_45, sR_98_47, sR_98_49, sR_98_51, sR_98_56, sR_98_58, sR_98_62, sR_98_65, sR_98_66, sR_98_69, hh0, e1, g2.2]
      · rw [hks] at g2
        have e : ∀ a k, a ≠ 129 → ¬ (a = 98 ∧ (k = 39 ∨ k = 43)) → hI h2 a k = hI h a k := fun a k z1 z2 => Fr_I ff (by unfold Wky; omega)
        obtain ⟨q1, q2, -, ⟨q5, q6⟩, ⟨q7, q8⟩, ⟨q9, q10⟩⟩ := rc
        exact ⟨by rw [e _ _ (by omega) (by omega)]; exact q1, by rw [e _ _ (by omega) (by omega)]; exact q2, g2.1, ⟨by rw [e _ _ (by omega) (by omega)]; exact q5, fun k hk => by rw [e _ _ (by omega) (by omega), e _ _ (by omega) (by omega)]; exact q6 k hk⟩, ⟨by rw [e _ _ (by omega) (by omega)]; exact q7, fun k hk => by rw [e _ _ (by omega) (by omega)]; exact q8 k hk⟩, ⟨by rw [e _ _ (by omega) (by omega)]; exact q9, fun k hk => by rw [e _ _ (by omega) (by omega)]; exact q10 k hk⟩⟩
