/-! the reference: what is wanted, and sets that break -/
def ltO : Option Nat → Option Nat → Bool
  | some x, some y => decide (x < y)
  | _, _ => false
def sWt (A : AS) (S : Nat) : Nat := nfo (fun b m => if (sCpl A (aPe A b)).isNone && ltO (sPlc A b) (sRnk A S (aPe A b)) then m ||| 2 ^ b else m) (aNb A) 0
theorem n_ltm1 {n : Nat} (h : n < 2 ^ 31) : (nI n < -1) = False := by
  have h1 : ¬ nI n ≤ -1 := n_neg (by decide) h
  exact eq_false fun q => h1 (Int32.le_of_lt q)
theorem e_M_wanted {A : AS} {h : jHp} (k : RMK A h) {S : Nat} (hS : S < 2 ^ 31) : f_M_wanted [.ref 98, .int (nI S)] h = some (some (.int (nI (sWt A S))), h) := by
  have hs := k.1
  have w := k.2.1
  have h20 := w.2.2.1.1
  have hn := w.1.1
  have hbp := w.2.2.1.2.1
  have q1 := k.2.2.2.1.2.1
  have q2 := k.2.2.2.1.2.2
  have hL := loop_n (lb := 1) (lc := 2) (c := lc_M_wanted_1) (b := lb_M_wanted_1) (u := lu_M_wanted_1) (aNb A) (fun i (m : Nat) => (([.ref 98, .int (nI S), .int (nI m), .int (nI i)], h) : jS)) (fun b m => if (sCpl A (aPe A b)).isNone && ltO (sPlc A b) (sRnk A S (aPe A b)) then m ||| 2 ^ b else m) (fun _ _ => True)
    (fun i m hi _ => by
      obtain ⟨e1, -⟩ := q2 i hi
      have l1 := (hbp i hi).1
      have c1 := e_M_coupleOf k (p := aPe A i) (by omega)
      have c2 := e_M_placeOf hs w k.2.2.2.1 k.2.2.2.2.1 hi
      have c3 := e_M_rank k hS (p := aPe A i) l1
      have r1 := fun n => sCpl_31 w (p := aPe A i) n
      have r2 := fun n (hn : sPlc A i = some n) => sPlc_lt w hn
      have r3 := fun n (hn : sRnk A S (aPe A i) = some n) => sRnk_lt w hn
      refine ⟨trivial, ?_⟩
      generalize sCpl A (aPe A i) = x1 at *
      generalize sPlc A i = x2 at *
      generalize sRnk A S (aPe A i) = x3 at *
      cases x1 with
      | some v =>
        have := r1 v rfl
        simp (disch := first | assumption | omega) [lstp, lc_M_wanted_1, lb_M_wanted_1, lu_M_wanted_1, j_meth, j_out, j_rok, j_pad, lg_sl, s_seq_w, isN_inl, isN_inr, s_if, jb, x_c, x_iloc, x_aloc, x_lloc, x_bin, x_un, o_add, o_sub, o_mul, o_and, o_or, o_xor, o_shl, o_shr, o_ushr, o_max, o_min, o_i2b, o_i2c, o_i2l, o_l2i, x_fld, j_fget, x_idx, j_aget, x_len, j_alen, x_ofb, x_ite, xs_nil, xs_cons, x_callv, x_calls, s_callv, s_calls, j_recv, j_ret, j_retv, b_cmp, b_and, b_or, b_not, b_ofi, b_ite, b_true, s_skip, s_set, j_ty, j_lset, j_kill, s_inc, s_fput, j_fput, s_fop, s_aput, j_aput, j_nar, s_aop, s_ret, s_retv, s_go, s_pop, x_linc, x_finc, Value.category, if_icmp.holds, List.flatMap_cons, List.flatMap_nil, List.length_cons, List.length_append, List.length_nil, List.set_cons_succ, List.set_cons_zero, List.getElem?_cons_succ, List.getElem?_cons_zero, List.replicate, ite_and', ite_or', ite_int', nI_leI, nI_ltI, nI_eq, nI_add, nI_1, pk_mul, nI_clamp, n_in', nI_pos', nI_pos, n_m1e, n_01, n_10, sT_98, sT_99, sT_100, sT_101, sT_102, sT_103, sT_104, sT_105, sT_106, sT_107, sT_108, sT_109, sT_110, sT_111, sT_112, sT_113, sT_114, sT_115, sT_116, sT_117, sT_118, sT_119, sT_120, sT_121, sT_122, sT_123, sT_124, sT_125, sT_126, sT_127, sT_128, sT_129, sT_130, sT_131, sT_132, sT_133, sT_134, sT_135, sT_136, sT_137, sT_138, sT_139, sT_140, sR_98_1, sR_98_4, sR_98_5, sR_98_6, sR_98_7, sR_98_8, sR_98_9, sR_98_10, sR_98_12, sR_98_13, sR_98_14, sR_98_15, sR_98_16, sR_98_17, sR_98_18, sR_98_19, sR_98_20, sR_98_21, sR_98_22, sR_98_23, sR_98_24, sR_98_25, sR_98_26, sR_98_27, sR_98_28, sR_98_29, sR_98_31, sR_98_34, sR_98_35, sR_98_36, sR_98_42, sR_98_44, sR_98_45, sR_98_47, sR_98_49, sR_98_51, sR_98_56, sR_98_58, sR_98_62, sR_98_65, sR_98_66, sR_98_69, hs, q1, hi, e1, c1, oI]
      | none =>
        cases x2 with
        | none => simp (disch := first | assumption | omega) [lstp, lc_M_wanted_1, lb_M_wanted_1, lu_M_wanted_1, j_meth, j_out, j_rok, j_pad, lg_sl, s_seq_w, isN_inl, isN_inr, s_if, jb, x_c, x_iloc, x_aloc, x_lloc, x_bin, x_un, o_add, o_sub, o_mul, o_and, o_or, o_xor, o_shl, o_shr, o_ushr, o_max, o_min, o_i2b, o_i2c, o_i2l, o_l2i, x_fld, j_fget, x_idx, j_aget, x_len, j_alen, x_ofb, x_ite, xs_nil, xs_cons, x_callv, x_calls, s_callv, s_calls, j_recv, j_ret, j_retv, b_cmp, b_and, b_or, b_not, b_ofi, b_ite, b_true, s_skip, s_set, j_ty, j_lset, j_kill, s_inc, s_fput, j_fput, s_fop, s_aput, j_aput, j_nar, s_aop, s_ret, s_retv, s_go, s_pop, x_linc, x_finc, Value.category, if_icmp.holds, List.flatMap_cons, List.flatMap_nil, List.length_cons, List.length_append, List.length_nil, List.set_cons_succ, List.set_cons_zero, List.getElem?_cons_succ, List.getElem?_cons_zero, List.replicate, ite_and', ite_or', ite_int', nI_leI, nI_ltI, nI_eq, nI_add, nI_1, pk_mul, nI_clamp, n_in', nI_pos', nI_pos, n_m1e, n_01, n_10, sT_98, sT_99, sT_100, sT_101, sT_102, sT_103, sT_104, sT_105, sT_106, sT_107, sT_108, sT_109, sT_110, sT_111, sT_112, sT_113, sT_114, sT_115, sT_116, sT_117, sT_118, sT_119, sT_120, sT_121, sT_122, sT_123, sT_124, sT_125, sT_126, sT_127, sT_128, sT_129, sT_130, sT_131, sT_132, sT_133, sT_134, sT_135, sT_136, sT_137, sT_138, sT_139, sT_140, sR_98_1, sR_98_4, sR_98_5, sR_98_6, sR_98_7, sR_98_8, sR_98_9, sR_98_10, sR_98_12, sR_98_13, sR_98_14, sR_98_15, sR_98_16, sR_98_17, sR_98_18, sR_98_19, sR_98_20, sR_98_21, sR_98_22, sR_98_23, sR_98_24, sR_98_25, sR_98_26, sR_98_27, sR_98_28, sR_98_29, sR_98_31, sR_98_34, sR_98_35, sR_98_36, sR_98_42, sR_98_44, sR_98_45, sR_98_47, sR_98_49, sR_98_51, sR_98_56, sR_98_58, sR_98_62, sR_98_65, sR_98_66, sR_98_69, hs, q1, hi, e1, c1, c2, oI, ltO]
        | some v2 =>
          have := r2 v2 rfl
          cases x3 with
          | none => simp (disch := first | assumption | omega) [lstp, lc_M_wanted_1, lb_M_wanted_1, lu_M_wanted_1, j_meth, j_out, j_rok, j_pad, lg_sl, s_seq_w, isN_inl, isN_inr, s_if, jb, x_c, x_iloc, x_aloc, x_lloc, x_bin, x_un, o_add, o_sub, o_mul, o_and, o_or, o_xor, o_shl, o_shr, o_ushr, o_max, o_min, o_i2b, o_i2c, o_i2l, o_l2i, x_fld, j_fget, x_idx, j_aget, x_len, j_alen, x_ofb, x_ite, xs_nil, xs_cons, x_callv, x_calls, s_callv, s_calls, j_recv, j_ret, j_retv, b_cmp, b_and, b_or, b_not, b_ofi, b_ite, b_true, s_skip, s_set, j_ty, j_lset, j_kill, s_inc, s_fput, j_fput, s_fop, s_aput, j_aput, j_nar, s_aop, s_ret, s_retv, s_go, s_pop, x_linc, x_finc, Value.category, if_icmp.holds, List.flatMap_cons, List.flatMap_nil, List.length_cons, List.length_append, List.length_nil, List.set_cons_succ, List.set_cons_zero, List.getElem?_cons_succ, List.getElem?_cons_zero, List.replicate, ite_and', ite_or', ite_int', nI_leI, nI_ltI, nI_eq, nI_add, nI_1, pk_mul, nI_clamp, n_in', nI_pos', nI_pos, n_m1e, n_01, n_10, sT_98, sT_99, sT_100, sT_101, sT_102, sT_103, sT_104, sT_105, sT_106, sT_107, sT_108, sT_109, sT_110, sT_111, sT_112, sT_113, sT_114, sT_115, sT_116, sT_117, sT_118, sT_119, sT_120, sT_121, sT_122, sT_123, sT_124, sT_125, sT_126, sT_127, sT_128, sT_129, sT_130, sT_131, sT_132, sT_133, sT_134, sT_135, sT_136, sT_137, sT_138, sT_139, sT_140, sR_98_1, sR_98_4, sR_98_5, sR_98_6, sR_98_7, sR_98_8, sR_98_9, sR_98_10, sR_98_12, sR_98_13, sR_98_14, sR_98_15, sR_98_16, sR_98_17, sR_98_18, sR_98_19, sR_98_20, sR_98_21, sR_98_22, sR_98_23, sR_98_24, sR_98_25, sR_98_26, sR_98_27, sR_98_28, sR_98_29, sR_98_31, sR_98_34, sR_98_35, sR_98_36, sR_98_42, sR_98_44, sR_98_45, sR_98_47, sR_98_49, sR_98_51, sR_98_56, sR_98_58, sR_98_62, sR_98_65, sR_98_66, sR_98_69, hs, q1, hi, e1, c1, c2, c3, oI, ltO, n_ltm1]
          | some v3 =>
            have := r3 v3 rfl
            by_cases hv : v2 < v3
            · simp (disch := first | assumption | omega) [lstp, lc_M_wanted_1, lb_M_wanted_1, lu_M_wanted_1, j_meth, j_out, j_rok, j_pad, lg_sl, s_seq_w, isN_inl, isN_inr, s_if, jb, x_c, x_iloc, x_aloc, x_lloc, x_bin, x_un, o_add, o_sub, o_mul, o_and, o_or, o_xor, o_shl, o_shr, o_ushr, o_max, o_min, o_i2b, o_i2c, o_i2l, o_l2i, x_fld, j_fget, x_idx, j_aget, x_len, j_alen, x_ofb, x_ite, xs_nil, xs_cons, x_callv, x_calls, s_callv, s_calls, j_recv, j_ret, j_retv, b_cmp, b_and, b_or, b_not, b_ofi, b_ite, b_true, s_skip, s_set, j_ty, j_lset, j_kill, s_inc, s_fput, j_fput, s_fop, s_aput, j_aput, j_nar, s_aop, s_ret, s_retv, s_go, s_pop, x_linc, x_finc, Value.category, if_icmp.holds, List.flatMap_cons, List.flatMap_nil, List.length_cons, List.length_append, List.length_nil, List.set_cons_succ, List.set_cons_zero, List.getElem?_cons_succ, List.getElem?_cons_zero, List.replicate, ite_and', ite_or', ite_int', nI_leI, nI_ltI, nI_eq, nI_add, nI_1, pk_mul, nI_clamp, n_in', nI_pos', nI_pos, n_m1e, n_01, n_10, sT_98, sT_99, sT_100, sT_101, sT_102, sT_103, sT_104, sT_105, sT_106, sT_107, sT_108, sT_109, sT_110, sT_111, sT_112, sT_113, sT_114, sT_115, sT_116, sT_117, sT_118, sT_119, sT_120, sT_121, sT_122, sT_123, sT_124, sT_125, sT_126, sT_127, sT_128, sT_129, sT_130, sT_131, sT_132, sT_133, sT_134, sT_135, sT_136, sT_137, sT_138, sT_139, sT_140, sR_98_1, sR_98_4, sR_98_5, sR_98_6, sR_98_7, sR_98_8, sR_98_9, sR_98_10, sR_98_12, sR_98_13, sR_98_14, sR_98_15, sR_98_16, sR_98_17, sR_98_18, sR_98_19, sR_98_20, sR_98_21, sR_98_22, sR_98_23, sR_98_24, sR_98_25, sR_98_26, sR_98_27, sR_98_28, sR_98_29, sR_98_31, sR_98_34, sR_98_35, sR_98_36, sR_98_42, sR_98_44, sR_98_45, sR_98_47, sR_98_49, sR_98_51, sR_98_56, sR_98_58, sR_98_62, sR_98_65, sR_98_66, sR_98_69, hs, q1, hi, e1, c1, c2, c3, oI, ltO, hv, n_bk, n_or]
            · simp (disch := first | assumption | omega) [lstp, lc_M_wanted_1, lb_M_wanted_1, lu_M_wanted_1, j_meth, j_out, j_rok, j_pad, lg_sl, s_seq_w, isN_inl, isN_inr, s_if, jb, x_c, x_iloc, x_aloc, x_lloc, x_bin, x_un, o_add, o_sub, o_mul, o_and, o_or, o_xor, o_shl, o_shr, o_ushr, o_max, o_min, o_i2b, o_i2c, o_i2l, o_l2i, x_fld, j_fget, x_idx, j_aget, x_len, j_alen, x_ofb, x_ite, xs_nil, xs_cons, x_callv, x_calls, s_callv, s_calls, j_recv, j_ret, j_retv, b_cmp, b_and, b_or, b_not, b_ofi, b_ite, b_true, s_skip, s_set, j_ty, j_lset, j_kill, s_inc, s_fput, j_fput, s_fop, s_aput, j_aput, j_nar, s_aop, s_ret, s_retv, s_go, s_pop, x_linc, x_finc, Value.category, if_icmp.holds, List.flatMap_cons, List.flatMap_nil, List.length_cons, List.length_append, List.length_nil, List.set_cons_succ, List.set_cons_zero, List.getElem?_cons_succ, List.getElem?_cons_zero, List.replicate, ite_and', ite_or', ite_int', nI_leI, nI_ltI, nI_eq, nI_add, nI_1, pk_mul, nI_clamp, n_in', nI_pos', nI_pos, n_m1e, n_01, n_10, sT_98, sT_99, sT_100, sT_101, sT_102, sT_103, sT_104, sT_105, sT_106, sT_107, sT_108, sT_109, sT_110, sT_111, sT_112, sT_113, sT_114, sT_115, sT_116, sT_117, sT_118, sT_119, sT_120, sT_121, sT_122, sT_123, sT_124, sT_125, sT_126, sT_127, sT_128, sT_129, sT_130, sT_131, sT_132, sT_133, sT_134, sT_135, sT_136, sT_137, sT_138, sT_139, sT_140, sR_98_1, sR_98_4, sR_98_5, sR_98_6, sR_98_7, sR_98_8, sR_98_9, sR_98_10, sR_98_12, sR_98_13, sR_98_14, sR_98_15, sR_98_16, sR_98_17, sR_98_18, sR_98_19, sR_98_20, sR_98_21, sR_98_22, sR_98_23, sR_98_24, sR_98_25, sR_98_26, sR_98_27, sR_98_28, sR_98_29, sR_98_31, sR_98_34, sR_98_35, sR_98_36, sR_98_42, sR_98_44, sR_98_45, sR_98_47, sR_98_49, sR_98_51, sR_98_56, sR_98_58, sR_98_62, sR_98_65, sR_98_66, sR_98_69, hs, q1, hi, e1, c1, c2, c3, oI, ltO, hv])
    (fun m _ => by simp (disch := first | assumption | omega) [lstp, lc_M_wanted_1, j_meth, j_out, j_rok, j_pad, lg_sl, s_seq_w, isN_inl, isN_inr, s_if, jb, x_c, x_iloc, x_aloc, x_lloc, x_bin, x_un, o_add, o_sub, o_mul, o_and, o_or, o_xor, o_shl, o_shr, o_ushr, o_max, o_min, o_i2b, o_i2c, o_i2l, o_l2i, x_fld, j_fget, x_idx, j_aget, x_len, j_alen, x_ofb, x_ite, xs_nil, xs_cons, x_callv, x_calls, s_callv, s_calls, j_recv, j_ret, j_retv, b_cmp, b_and, b_or, b_not, b_ofi, b_ite, b_true, s_skip, s_set, j_ty, j_lset, j_kill, s_inc, s_fput, j_fput, s_fop, s_aput, j_aput, j_nar, s_aop, s_ret, s_retv, s_go, s_pop, x_linc, x_finc, Value.category, if_icmp.holds, List.flatMap_cons, List.flatMap_nil, List.length_cons, List.length_append, List.length_nil, List.set_cons_succ, List.set_cons_zero, List.getElem?_cons_succ, List.getElem?_cons_zero, List.replicate, ite_and', ite_or', ite_int', nI_leI, nI_ltI, nI_eq, nI_add, nI_1, pk_mul, nI_clamp, n_in', nI_pos', nI_pos, n_m1e, n_01, n_10, sT_98, sT_99, sT_100, sT_101, sT_102, sT_103, sT_104, sT_105, sT_106, sT_107, sT_108, sT_109, sT_110, sT_111, sT_112, sT_113, sT_114, sT_115, sT_116, sT_117, sT_118, sT_119, sT_120, sT_121, sT_122, sT_123, sT_124, sT_125, sT_126, sT_127, sT_128, sT_129, sT_130, sT_131, sT_132, sT_133, sT_134, sT_135, sT_136, sT_137, sT_138, sT_139, sT_140, sR_98_1, sR_98_4, sR_98_5, sR_98_6, sR_98_7, sR_98_8, sR_98_9, sR_98_10, sR_98_12, sR_98_13, sR_98_14, sR_98_15, sR_98_16, sR_98_17, sR_98_18, sR_98_19, sR_98_20, sR_98_21, sR_98_22, sR_98_23, sR_98_24, sR_98_25, sR_98_26, sR_98_27, sR_98_28, sR_98_29, sR_98_31, sR_98_34, sR_98_35, sR_98_36, sR_98_42, sR_98_44, sR_98_45, sR_98_47, sR_98_49, sR_98_51, sR_98_56, sR_98_58, sR_98_62, sR_98_65, sR_98_66, sR_98_69, hs, q1]) 0 trivial
  unfold sWt
  simp (disch := first | assumption | omega) [f_M_wanted, body_M_wanted, j_meth, j_out, j_rok, j_pad, lg_sl, s_seq_w, isN_inl, isN_inr, s_if, jb, x_c, x_iloc, x_aloc, x_lloc, x_bin, x_un, o_add, o_sub, o_mul, o_and, o_or, o_xor, o_shl, o_shr, o_ushr, o_max, o_min, o_i2b, o_i2c, o_i2l, o_l2i, x_fld, j_fget, x_idx, j_aget, x_len, j_alen, x_ofb, x_ite, xs_nil, xs_cons, x_callv, x_calls, s_callv, s_calls, j_recv, j_ret, j_retv, b_cmp, b_and, b_or, b_not, b_ofi, b_ite, b_true, s_skip, s_set, j_ty, j_lset, j_kill, s_inc, s_fput, j_fput, s_fop, s_aput, j_aput, j_nar, s_aop, s_ret, s_retv, s_go, s_pop, x_linc, x_finc, Value.category, if_icmp.holds, List.flatMap_cons, List.flatMap_nil, List.length_cons, List.length_append, List.length_nil, List.set_cons_succ, List.set_cons_zero, List.getElem?_cons_succ, List.getElem?_cons_zero, List.replicate, ite_and', ite_or', ite_int', nI_leI, nI_ltI, nI_eq, nI_add, nI_1, pk_mul, nI_clamp, n_in', nI_pos', nI_pos, n_m1e, n_01, n_10, sT_98, sT_99, sT_100, sT_101, sT_102, sT_103, sT_104, sT_105, sT_106, sT_107, sT_108, sT_109, sT_110, sT_111, sT_112, sT_113, sT_114, sT_115, sT_116, sT_117, sT_118, sT_119, sT_120, sT_121, sT_122, sT_123, sT_124, sT_125, sT_126, sT_127, sT_128, sT_129, sT_130, sT_131, sT_132, sT_133, sT_134, sT_135, sT_136, sT_137, sT_138, sT_139, sT_140, sR_98_1, sR_98_4, sR_98_5, sR_98_6, sR_98_7, sR_98_8, sR_98_9, sR_98_10, sR_98_12, sR_98_13, sR_98_14, sR_98_15, sR_98_16, sR_98_17, sR_98_18, sR_98_19, sR_98_20, sR_98_21, sR_98_22, sR_98_23, sR_98_24, sR_98_25, sR_98_26, sR_98_27, sR_98_28, sR_98_29, sR_98_31, sR_98_34, sR_98_35, sR_98_36, sR_98_42, sR_98_44, sR_98_45, sR_98_47, sR_98_49, sR_98_51, sR_98_56, sR_98_58, sR_98_62, sR_98_65, sR_98_66, sR_98_69, hs, hL]
theorem sWt_lt {A : AS} (w : WF A) (S : Nat) : sWt A S < 2 ^ 20 := by
  unfold sWt
  have h20 := w.2.2.1.1
  refine nfo_inv (fun _ m => m < 2 ^ 20) (aNb A) 0 (by decide) ?_ _ (Nat.le_refl _)
  intro i t hi ht
  split
  · exact Nat.or_lt_two_pow ht (Nat.pow_lt_pow_right (by decide) (by omega))
  · exact ht
theorem sub_cmp : ∀ (k m z : Nat), m < 2 ^ k → z &&& m = z → (2 ^ k - 1 - (m - z)) &&& m = z := by
  intro k
  induction k with
  | zero => intro m z hm hz; have : m = 0 := by simpa using hm
            subst this; simpa using hz
  | succ k ih =>
    intro m z hm hz
    have hzm := sub_le hz
    rw [and_two] at hz
    have hm2 : m % 2 = 0 ∨ m % 2 = 1 := by omega
    have hz2 : z % 2 = 0 ∨ z % 2 = 1 := by omega
    have hp : 2 ^ (k + 1) = 2 * 2 ^ k := by rw [Nat.pow_succ]; omega
    have z1 : z / 2 &&& m / 2 = z / 2 := by
      rcases hm2 with h | h <;> rcases hz2 with h' | h' <;> simp [h, h'] at hz <;> omega
    have hzm' := sub_le z1
    have h1 := ih (m / 2) (z / 2) (by omega) z1
    have hz3 : z % 2 ≤ m % 2 := by
      rcases hm2 with h | h <;> rcases hz2 with h' | h' <;> simp [h, h'] at hz ⊢ <;> omega
    rw [and_two]
    have e1 : (2 ^ (k + 1) - 1 - (m - z)) / 2 = 2 ^ k - 1 - (m / 2 - z / 2) := by
      rcases hm2 with h | h <;> rcases hz2 with h' | h' <;> omega
    have e2 : (2 ^ (k + 1) - 1 - (m - z)) % 2 = 1 - (m % 2 - z % 2) := by
      rcases hm2 with h | h <;> rcases hz2 with h' | h' <;> omega
    rw [e1, e2, h1]
    rcases hm2 with h | h <;> rcases hz2 with h' | h' <;> simp [h, h'] at hz3 ⊢ <;> omega
/-- the next greater part of m behind z -/
def nxt (m z : Nat) : Nat := (2 ^ 32 + z - m) &&& m
theorem sub_succ : ∀ (k m z : Nat), m < 2 ^ k → z &&& m = z → z < m → z < (2 ^ k + z - m) &&& m ∧ ∀ t, t &&& m = t → z < t → (2 ^ k + z - m) &&& m ≤ t := by
  intro k
  induction k with
  | zero => intro m z hm hz hlt; have : m = 0 := by simpa using hm
            omega
  | succ k ih =>
    intro m z hm hz hlt
    have hzm := sub_le hz
    rw [and_two] at hz
    have hm2 : m % 2 = 0 ∨ m % 2 = 1 := by omega
    have hz2 : z % 2 = 0 ∨ z % 2 = 1 := by omega
    have hp : 2 ^ (k + 1) = 2 * 2 ^ k := by rw [Nat.pow_succ]; omega
    have z1 : z / 2 &&& m / 2 = z / 2 := by
      rcases hm2 with h | h <;> rcases hz2 with h' | h' <;> simp [h, h'] at hz <;> omega
    have hzm' := sub_le z1
    have tt : ∀ t, t &&& m = t → t / 2 &&& m / 2 = t / 2 ∧ t % 2 ≤ m % 2 := by
      intro t ht
      rw [and_two] at ht
      have ht2 : t % 2 = 0 ∨ t % 2 = 1 := by omega
      rcases hm2 with h | h <;> rcases ht2 with h' | h' <;> simp [h, h'] at ht ⊢ <;> omega
    by_cases hc : m % 2 = 1 ∧ z % 2 = 0
    · have e : 2 ^ (k + 1) + z - m = 2 * (2 ^ k - 1 - (m / 2 - z / 2)) + 1 := by omega
      have h1 := sub_cmp k (m / 2) (z / 2) (by omega) z1
      rw [e, and_two]
      have e1 : (2 * (2 ^ k - 1 - (m / 2 - z / 2)) + 1) / 2 = 2 ^ k - 1 - (m / 2 - z / 2) := by omega
      have e2 : (2 * (2 ^ k - 1 - (m / 2 - z / 2)) + 1) % 2 = 1 := by omega
      rw [e1, e2, h1, hc.1]
      refine ⟨by omega, fun t ht hlt => ?_⟩
      omega
    · have hz3 : z % 2 ≤ m % 2 := by
        rcases hm2 with h | h <;> rcases hz2 with h' | h' <;> simp [h, h'] at hz ⊢ <;> omega
      have e : 2 ^ (k + 1) + z - m = 2 * (2 ^ k + z / 2 - m / 2) := by omega
      obtain ⟨h1, h2⟩ := ih (m / 2) (z / 2) (by omega) z1 (by omega)
      rw [e, and_two]
      have e1 : (2 * (2 ^ k + z / 2 - m / 2)) / 2 = 2 ^ k + z / 2 - m / 2 := by omega
      have e2 : (2 * (2 ^ k + z / 2 - m / 2)) % 2 = 0 := by omega
      rw [e1, e2]
      refine ⟨by omega, fun t ht hlt2 => ?_⟩
      obtain ⟨t1, t2⟩ := tt t ht
      have := h2 (t / 2) t1 (by omega)
      omega
theorem n_nxt {m z : Nat} (hm : m < 2 ^ 31) (hz : z ≤ m) : (nI z - nI m) &&& nI m = nI (nxt m z) := by
  have : nI z - nI m = nI (2 ^ 32 + z - m) := by
    apply Int32.toBitVec_inj.1
    show BitVec.ofNat 32 z - BitVec.ofNat 32 m = BitVec.ofNat 32 (2 ^ 32 + z - m)
    apply BitVec.eq_of_toNat_eq
    rw [BitVec.toNat_sub]
    simp only [BitVec.toNat_ofNat]
    omega
  rw [this, n_and]
  rfl
