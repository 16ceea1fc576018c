/-! bond, the call -/
noncomputable def bnd_1 : jSt := (s_if (b_or (b_or (b_not (b_ofi (x_callv 7 f_P_has (xs_cons (x_fld 0 1 1 (x_aloc 0)) (xs_cons (x_iloc 1) xs_nil))))) (b_not (b_ofi (x_callv 0 f_S_hasOffice (xs_cons (x_aloc 0) (xs_cons (x_iloc 2) xs_nil)))))) (b_not (b_ofi (x_callv 1 f_B_hasRoom (xs_cons (x_fld 0 1 0 (x_aloc 0)) (xs_cons (x_iloc 1) (xs_cons (x_iloc 2) xs_nil))))))) (s_ret (x_c (.int (-1)))) s_skip)
noncomputable def bnd_2 : jSt := (s_if (b_or (b_or (b_or (b_or (b_or (b_cmp .lt (x_iloc 3) (x_c (.int 0))) (b_cmp .gt (x_iloc 3) (x_c (.int (nI 99))))) (b_cmp .lt (x_iloc 4) (x_c (.int 0)))) (b_cmp .gt (x_iloc 4) (x_c (.int (nI 9))))) (b_cmp .lt (x_iloc 5) (x_c (.int 0)))) (b_cmp .gt (x_iloc 5) (x_c (.int (nI 9))))) (s_ret (x_c (.int (-1)))) s_skip)
noncomputable def bnd_3 : jSt := (s_fput 9 0 1 4 (x_fld 0 1 6 (x_aloc 0)) (x_c (.int (nI 0))))
noncomputable def bnd_4 : jSt := (s_callv 4 f_D_forget (xs_cons (x_idx 6 (x_fld 0 1 3 (x_aloc 0)) (x_iloc 2)) xs_nil))
noncomputable def bnd_5 : jSt := (s_ret (x_callv 1 f_B_join (xs_cons (x_fld 0 1 0 (x_aloc 0)) (xs_cons (x_iloc 1) (xs_cons (x_iloc 2) (xs_cons (x_iloc 3) (xs_cons (x_iloc 4) (xs_cons (x_iloc 5) xs_nil))))))))
theorem bnd_body : body_S_bond = s_seq bnd_1 (s_seq bnd_2 (s_seq bnd_3 (s_seq bnd_4 (bnd_5)))) := rfl
theorem j_in_rng {v : Int32} {m : Nat} (hm : m < 2 ^ 30) : j_in v (m + 1) = true ↔ ¬ v < 0 ∧ ¬ nI m < v := by
  rcases n_of v with ⟨k, hk, rfl⟩ | hx
  · rw [n_in hk, nI_ltI (by omega) hk]
    have h0 : ¬ nI k < 0 := Int32.not_lt.mpr (nI_pos' hk)
    simp only [decide_eq_true_eq]
    constructor
    · intro h; exact ⟨h0, by omega⟩
    · rintro ⟨-, h⟩; omega
  · have h0 : ¬ 0 ≤ v := Int32.not_le.mpr hx
    have hj : j_in v (m + 1) = false := by simp [j_in, h0]
    rw [hj]
    constructor
    · intro h; cases h
    · rintro ⟨h, -⟩; exact absurd hx h
theorem bnd_2_ok {v0 v1 v2 : Value} {c y t : Int32} {h : jHp} : bnd_2 ([v0, v1, v2, .int c, .int y, .int t], h) = some (if j_in c 100 = true ∧ j_in y 10 = true ∧ j_in t 10 = true then .inl 0 else .inr (some (.int (-1))), ([v0, v1, v2, .int c, .int y, .int t], h)) := by
  have r1 := j_in_rng (v := c) (m := 99) (by decide)
  have r2 := j_in_rng (v := y) (m := 9) (by decide)
  have r3 := j_in_rng (v := t) (m := 9) (by decide)
  by_cases c1 : c < 0
  · rw [if_neg (fun q => (r1.mp q.1).1 c1)]
    simp (disch := first | assumption | omega) [bnd_2, j_meth, j_out, j_rok, j_pad, lg_sl, s_seq_w, isN_inl, isN_inr, s_if, jb, x_c, x_iloc, x_aloc, x_lloc, x_bin, x_un, o_add, o_sub, o_mul, o_and, o_or, o_xor, o_shl, o_shr, o_ushr, o_max, o_min, o_i2b, o_i2c, o_i2l, o_l2i, x_fld, j_fget, x_idx, j_aget, x_len, j_alen, x_ofb, x_ite, xs_nil, xs_cons, x_callv, x_calls, s_callv, s_calls, j_recv, j_ret, j_retv, b_cmp, b_and, b_or, b_not, b_ofi, b_ite, b_true, s_skip, s_set, j_ty, j_lset, j_kill, s_inc, s_fput, j_fput, s_fop, s_aput, j_aput, j_nar, s_aop, s_ret, s_retv, s_go, s_pop, x_linc, x_finc, Value.category, if_icmp.holds, List.flatMap_cons, List.flatMap_nil, List.length_cons, List.length_append, List.length_nil, List.set_cons_succ, List.set_cons_zero, List.getElem?_cons_succ, List.getElem?_cons_zero, List.replicate, ite_and', ite_or', ite_int', nI_leI, nI_ltI, nI_eq, nI_add, nI_1, pk_mul, nI_clamp, n_in', nI_pos', nI_pos, n_m1e, n_01, n_10, sT_1, sR_1_0, sR_1_1, sR_1_2, sR_1_3, sR_1_4, sR_1_5, sR_1_6, sR_1_7, sR_1_8, sR_1_9, sT_2, sT_3, sT_4, sT_5, sT_6, sT_7, sT_8, sT_9, sT_10, sT_11, sT_12, sT_13, sT_14, sR_2_1, sR_2_2, sR_2_3, sR_2_4, sR_2_5, sR_2_6, sR_2_7, sR_2_8, sR_2_9, sR_2_10, sR_2_11, sR_2_12, sT_15, sT_16, sT_17, sT_18, sT_19, sT_20, sT_21, sT_22, sT_23, sR_15_1, sR_15_2, sR_15_3, sR_15_4, sR_15_5, sR_15_6, sR_15_7, sR_15_8, sT_24, sT_25, sT_26, sT_27, sT_28, sT_29, sR_24_1, sR_24_2, sR_24_3, sR_24_4, sR_24_5, sT_71, sT_72, sR_71_0, sR_71_1, sR_71_2, sR_71_3, sR_71_4, sT_73, sT_74, sT_75, sR_73_0, sR_73_1, sR_73_2, sR_73_3, sR_73_4, sR_73_5, sT_84, sT_85, sT_86, sT_87, sR_84_0, sR_84_1, sR_84_2, sR_84_3, sR_84_4, sR_84_5, sT_88, sT_89, sR_88_0, sT_90, sT_91, sR_90_0, c1]
  by_cases c2 : nI 99 < c
  · rw [if_neg (fun q => (r1.mp q.1).2 c2)]
    simp (disch := first | assumption | omega) [bnd_2, j_meth, j_out, j_rok, j_pad, lg_sl, s_seq_w, isN_inl, isN_inr, s_if, jb, x_c, x_iloc, x_aloc, x_lloc, x_bin, x_un, o_add, o_sub, o_mul, o_and, o_or, o_xor, o_shl, o_shr, o_ushr, o_max, o_min, o_i2b, o_i2c, o_i2l, o_l2i, x_fld, j_fget, x_idx, j_aget, x_len, j_alen, x_ofb, x_ite, xs_nil, xs_cons, x_callv, x_calls, s_callv, s_calls, j_recv, j_ret, j_retv, b_cmp, b_and, b_or, b_not, b_ofi, b_ite, b_true, s_skip, s_set, j_ty, j_lset, j_kill, s_inc, s_fput, j_fput, s_fop, s_aput, j_aput, j_nar, s_aop, s_ret, s_retv, s_go, s_pop, x_linc, x_finc, Value.category, if_icmp.holds, List.flatMap_cons, List.flatMap_nil, List.length_cons, List.length_append, List.length_nil, List.set_cons_succ, List.set_cons_zero, List.getElem?_cons_succ, List.getElem?_cons_zero, List.replicate, ite_and', ite_or', ite_int', nI_leI, nI_ltI, nI_eq, nI_add, nI_1, pk_mul, nI_clamp, n_in', nI_pos', nI_pos, n_m1e, n_01, n_10, sT_1, sR_1_0, sR_1_1, sR_1_2, sR_1_3, sR_1_4, sR_1_5, sR_1_6, sR_1_7, sR_1_8, sR_1_9, sT_2, sT_3, sT_4, sT_5, sT_6, sT_7, sT_8, sT_9, sT_10, sT_11, sT_12, sT_13, sT_14, sR_2_1, sR_2_2, sR_2_3, sR_2_4, sR_2_5, sR_2_6, sR_2_7, sR_2_8, sR_2_9, sR_2_10, sR_2_11, sR_2_12, sT_15, sT_16, sT_17, sT_18, sT_19, sT_20, sT_21, sT_22, sT_23, sR_15_1, sR_15_2, sR_15_3, sR_15_4, sR_15_5, sR_15_6, sR_15_7, sR_15_8, sT_24, sT_25, sT_26, sT_27, sT_28, sT_29, sR_24_1, sR_24_2, sR_24_3, sR_24_4, sR_24_5, sT_71, sT_72, sR_71_0, sR_71_1, sR_71_2, sR_71_3, sR_71_4, sT_73, sT_74, sT_75, sR_73_0, sR_73_1, sR_73_2, sR_73_3, sR_73_4, sR_73_5, sT_84, sT_85, sT_86, sT_87, sR_84_0, sR_84_1, sR_84_2, sR_84_3, sR_84_4, sR_84_5, sT_88, sT_89, sR_88_0, sT_90, sT_91, sR_90_0, c1, c2]
  by_cases y1 : y < 0
  · rw [if_neg (fun q => (r2.mp q.2.1).1 y1)]
    simp (disch := first | assumption | omega) [bnd_2, j_meth, j_out, j_rok, j_pad, lg_sl, s_seq_w, isN_inl, isN_inr, s_if, jb, x_c, x_iloc, x_aloc, x_lloc, x_bin, x_un, o_add, o_sub, o_mul, o_and, o_or, o_xor, o_shl, o_shr, o_ushr, o_max, o_min, o_i2b, o_i2c, o_i2l, o_l2i, x_fld, j_fget, x_idx, j_aget, x_len, j_alen, x_ofb, x_ite, xs_nil, xs_cons, x_callv, x_calls, s_callv, s_calls, j_recv, j_ret, j_retv, b_cmp, b_and, b_or, b_not, b_ofi, b_ite, b_true, s_skip, s_set, j_ty, j_lset, j_kill, s_inc, s_fput, j_fput, s_fop, s_aput, j_aput, j_nar, s_aop, s_ret, s_retv, s_go, s_pop, x_linc, x_finc, Value.category, if_icmp.holds, List.flatMap_cons, List.flatMap_nil, List.length_cons, List.length_append, List.length_nil, List.set_cons_succ, List.set_cons_zero, List.getElem?_cons_succ, List.getElem?_cons_zero, List.replicate, ite_and', ite_or', ite_int', nI_leI, nI_ltI, nI_eq, nI_add, nI_1, pk_mul, nI_clamp, n_in', nI_pos', nI_pos, n_m1e, n_01, n_10, sT_1, sR_1_0, sR_1_1, sR_1_2, sR_1_3, sR_1_4, sR_1_5, sR_1_6, sR_1_7, sR_1_8, sR_1_9, sT_2, sT_3, sT_4, sT_5, sT_6, sT_7, sT_8, sT_9, sT_10, sT_11, sT_12, sT_13, sT_14, sR_2_1, sR_2_2, sR_2_3, sR_2_4, sR_2_5, sR_2_6, sR_2_7, sR_2_8, sR_2_9, sR_2_10, sR_2_11, sR_2_12, sT_15, sT_16, sT_17, sT_18, sT_19, sT_20, sT_21, sT_22, sT_23, sR_15_1, sR_15_2, sR_15_3, sR_15_4, sR_15_5, sR_15_6, sR_15_7, sR_15_8, sT_24, sT_25, sT_26, sT_27, sT_28, sT_29, sR_24_1, sR_24_2, sR_24_3, sR_24_4, sR_24_5, sT_71, sT_72, sR_71_0, sR_71_1, sR_71_2, sR_71_3, sR_71_4, sT_73, sT_74, sT_75, sR_73_0, sR_73_1, sR_73_2, sR_73_3, sR_73_4, sR_73_5, sT_84, sT_85, sT_86, sT_87, sR_84_0, sR_84_1, sR_84_2, sR_84_3, sR_84_4, sR_84_5, sT_88, sT_89, sR_88_0, sT_90, sT_91, sR_90_0, c1, c2, y1]
  by_cases y2 : nI 9 < y
  · rw [if_neg (fun q => (r2.mp q.2.1).2 y2)]
    simp (disch := first | assumption | omega) [bnd_2, j_meth, j_out, j_rok, j_pad, lg_sl, s_seq_w, isN_inl, isN_inr, s_if, jb, x_c, x_iloc, x_aloc, x_lloc, x_bin, x_un, o_add, o_sub, o_mul, o_and, o_or, o_xor, o_shl, o_shr, o_ushr, o_max, o_min, o_i2b, o_i2c, o_i2l, o_l2i, x_fld, j_fget, x_idx, j_aget, x_len, j_alen, x_ofb, x_ite, xs_nil, xs_cons, x_callv, x_calls, s_callv, s_calls, j_recv, j_ret, j_retv, b_cmp, b_and, b_or, b_not, b_ofi, b_ite, b_true, s_skip, s_set, j_ty, j_lset, j_kill, s_inc, s_fput, j_fput, s_fop, s_aput, j_aput, j_nar, s_aop, s_ret, s_retv, s_go, s_pop, x_linc, x_finc, Value.category, if_icmp.holds, List.flatMap_cons, List.flatMap_nil, List.length_cons, List.length_append, List.length_nil, List.set_cons_succ, List.set_cons_zero, List.getElem?_cons_succ, List.getElem?_cons_zero, List.replicate, ite_and', ite_or', ite_int', nI_leI, nI_ltI, nI_eq, nI_add, nI_1, pk_mul, nI_clamp, n_in', nI_pos', nI_pos, n_m1e, n_01, n_10, sT_1, sR_1_0, sR_1_1, sR_1_2, sR_1_3, sR_1_4, sR_1_5, sR_1_6, sR_1_7, sR_1_8, sR_1_9, sT_2, sT_3, sT_4, sT_5, sT_6, sT_7, sT_8, sT_9, sT_10, sT_11, sT_12, sT_13, sT_14, sR_2_1, sR_2_2, sR_2_3, sR_2_4, sR_2_5, sR_2_6, sR_2_7, sR_2_8, sR_2_9, sR_2_10, sR_2_11, sR_2_12, sT_15, sT_16, sT_17, sT_18, sT_19, sT_20, sT_21, sT_22, sT_23, sR_15_1, sR_15_2, sR_15_3, sR_15_4, sR_15_5, sR_15_6, sR_15_7, sR_15_8, sT_24, sT_25, sT_26, sT_27, sT_28, sT_29, sR_24_1, sR_24_2, sR_24_3, sR_24_4, sR_24_5, sT_71, sT_72, sR_71_0, sR_71_1, sR_71_2, sR_71_3, sR_71_4, sT_73, sT_74, sT_75, sR_73_0, sR_73_1, sR_73_2, sR_73_3, sR_73_4, sR_73_5, sT_84, sT_85, sT_86, sT_87, sR_84_0, sR_84_1, sR_84_2, sR_84_3, sR_84_4, sR_84_5, sT_88, sT_89, sR_88_0, sT_90, sT_91, sR_90_0, c1, c2, y1, y2]
  by_cases t1 : t < 0
  · rw [if_neg (fun q => (r3.mp q.2.2).1 t1)]
    simp (disch := first | assumption | omega) [bnd_2, j_meth, j_out, j_rok, j_pad, lg_sl, s_seq_w, isN_inl, isN_inr, s_if, jb, x_c, x_iloc, x_aloc, x_lloc, x_bin, x_un, o_add, o_sub, o_mul, o_and, o_or, o_xor, o_shl, o_shr, o_ushr, o_max, o_min, o_i2b, o_i2c, o_i2l, o_l2i, x_fld, j_fget, x_idx, j_aget, x_len, j_alen, x_ofb, x_ite, xs_nil, xs_cons, x_callv, x_calls, s_callv, s_calls, j_recv, j_ret, j_retv, b_cmp, b_and, b_or, b_not, b_ofi, b_ite, b_true, s_skip, s_set, j_ty, j_lset, j_kill, s_inc, s_fput, j_fput, s_fop, s_aput, j_aput, j_nar, s_aop, s_ret, s_retv, s_go, s_pop, x_linc, x_finc, Value.category, if_icmp.holds, List.flatMap_cons, List.flatMap_nil, List.length_cons, List.length_append, List.length_nil, List.set_cons_succ, List.set_cons_zero, List.getElem?_cons_succ, List.getElem?_cons_zero, List.replicate, ite_and', ite_or', ite_int', nI_leI, nI_ltI, nI_eq, nI_add, nI_1, pk_mul, nI_clamp, n_in', nI_pos', nI_pos, n_m1e, n_01, n_10, sT_1, sR_1_0, sR_1_1, sR_1_2, sR_1_3, sR_1_4, sR_1_5, sR_1_6, sR_1_7, sR_1_8, sR_1_9, sT_2, sT_3, sT_4, sT_5, sT_6, sT_7, sT_8, sT_9, sT_10, sT_11, sT_12, sT_13, sT_14, sR_2_1, sR_2_2, sR_2_3, sR_2_4, sR_2_5, sR_2_6, sR_2_7, sR_2_8, sR_2_9, sR_2_10, sR_2_11, sR_2_12, sT_15, sT_16, sT_17, sT_18, sT_19, sT_20, sT_21, sT_22, sT_23, sR_15_1, sR_15_2, sR_15_3, sR_15_4, sR_15_5, sR_15_6, sR_15_7, sR_15_8, sT_24, sT_25, sT_26, sT_27, sT_28, sT_29, sR_24_1, sR_24_2, sR_24_3, sR_24_4, sR_24_5, sT_71, sT_72, sR_71_0, sR_71_1, sR_71_2, sR_71_3, sR_71_4, sT_73, sT_74, sT_75, sR_73_0, sR_73_1, sR_73_2, sR_73_3, sR_73_4, sR_73_5, sT_84, sT_85, sT_86, sT_87, sR_84_0, sR_84_1, sR_84_2, sR_84_3, sR_84_4, sR_84_5, sT_88, sT_89, sR_88_0, sT_90, sT_91, sR_90_0, c1, c2, y1, y2, t1]
  by_cases t2 : nI 9 < t
  · rw [if_neg (fun q => (r3.mp q.2.2).2 t2)]
    simp (disch := first | assumption | omega) [bnd_2, j_meth, j_out, j_rok, j_pad, lg_sl, s_seq_w, isN_inl, isN_inr, s_if, jb, x_c, x_iloc, x_aloc, x_lloc, x_bin, x_un, o_add, o_sub, o_mul, o_and, o_or, o_xor, o_shl, o_shr, o_ushr, o_max, o_min, o_i2b, o_i2c, o_i2l, o_l2i, x_fld, j_fget, x_idx, j_aget, x_len, j_alen, x_ofb, x_ite, xs_nil, xs_cons, x_callv, x_calls, s_callv, s_calls, j_recv, j_ret, j_retv, b_cmp, b_and, b_or, b_not, b_ofi, b_ite, b_true, s_skip, s_set, j_ty, j_lset, j_kill, s_inc, s_fput, j_fput, s_fop, s_aput, j_aput, j_nar, s_aop, s_ret, s_retv, s_go, s_pop, x_linc, x_finc, Value.category, if_icmp.holds, List.flatMap_cons, List.flatMap_nil, List.length_cons, List.length_append, List.length_nil, List.set_cons_succ, List.set_cons_zero, List.getElem?_cons_succ, List.getElem?_cons_zero, List.replicate, ite_and', ite_or', ite_int', nI_leI, nI_ltI, nI_eq, nI_add, nI_1, pk_mul, nI_clamp, n_in', nI_pos', nI_pos, n_m1e, n_01, n_10, sT_1, sR_1_0, sR_1_1, sR_1_2, sR_1_3, sR_1_4, sR_1_5, sR_1_6, sR_1_7, sR_1_8, sR_1_9, sT_2, sT_3, sT_4, sT_5, sT_6, sT_7, sT_8, sT_9, sT_10, sT_11, sT_12, sT_13, sT_14, sR_2_1, sR_2_2, sR_2_3, sR_2_4, sR_2_5, sR_2_6, sR_2_7, sR_2_8, sR_2_9, sR_2_10, sR_2_11, sR_2_12, sT_15, sT_16, sT_17, sT_18, sT_19, sT_20, sT_21, sT_22, sT_23, sR_15_1, sR_15_2, sR_15_3, sR_15_4, sR_15_5, sR_15_6, sR_15_7, sR_15_8, sT_24, sT_25, sT_26, sT_27, sT_28, sT_29, sR_24_1, sR_24_2, sR_24_3, sR_24_4, sR_24_5, sT_71, sT_72, sR_71_0, sR_71_1, sR_71_2, sR_71_3, sR_71_4, sT_73, sT_74, sT_75, sR_73_0, sR_73_1, sR_73_2, sR_73_3, sR_73_4, sR_73_5, sT_84, sT_85, sT_86, sT_87, sR_84_0, sR_84_1, sR_84_2, sR_84_3, sR_84_4, sR_84_5, sT_88, sT_89, sR_88_0, sT_90, sT_91, sR_90_0, c1, c2, y1, y2, t1, t2]
  rw [if_pos ⟨r1.mpr ⟨c1, c2⟩, r2.mpr ⟨y1, y2⟩, r3.mpr ⟨t1, t2⟩⟩]
  simp (disch := first | assumption | omega) [bnd_2, j_meth, j_out, j_rok, j_pad, lg_sl, s_seq_w, isN_inl, isN_inr, s_if, jb, x_c, x_iloc, x_aloc, x_lloc, x_bin, x_un, o_add, o_sub, o_mul, o_and, o_or, o_xor, o_shl, o_shr, o_ushr, o_max, o_min, o_i2b, o_i2c, o_i2l, o_l2i, x_fld, j_fget, x_idx, j_aget, x_len, j_alen, x_ofb, x_ite, xs_nil, xs_cons, x_callv, x_calls, s_callv, s_calls, j_recv, j_ret, j_retv, b_cmp, b_and, b_or, b_not, b_ofi, b_ite, b_true, s_skip, s_set, j_ty, j_lset, j_kill, s_inc, s_fput, j_fput, s_fop, s_aput, j_aput, j_nar, s_aop, s_ret, s_retv, s_go, s_pop, x_linc, x_finc, Value.category, if_icmp.holds, List.flatMap_cons, List.flatMap_nil, List.length_cons, List.length_append, List.length_nil, List.set_cons_succ, List.set_cons_zero, List.getElem?_cons_succ, List.getElem?_cons_zero, List.replicate, ite_and', ite_or', ite_int', nI_leI, nI_ltI, nI_eq, nI_add, nI_1, pk_mul, nI_clamp, n_in', nI_pos', nI_pos, n_m1e, n_01, n_10, sT_1, sR_1_0, sR_1_1, sR_1_2, sR_1_3, sR_1_4, sR_1_5, sR_1_6, sR_1_7, sR_1_8, sR_1_9, sT_2, sT_3, sT_4, sT_5, sT_6, sT_7, sT_8, sT_9, sT_10, sT_11, sT_12, sT_13, sT_14, sR_2_1, sR_2_2, sR_2_3, sR_2_4, sR_2_5, sR_2_6, sR_2_7, sR_2_8, sR_2_9, sR_2_10, sR_2_11, sR_2_12, sT_15, sT_16, sT_17, sT_18, sT_19, sT_20, sT_21, sT_22, sT_23, sR_15_1, sR_15_2, sR_15_3, sR_15_4, sR_15_5, sR_15_6, sR_15_7, sR_15_8, sT_24, sT_25, sT_26, sT_27, sT_28, sT_29, sR_24_1, sR_24_2, sR_24_3, sR_24_4, sR_24_5, sT_71, sT_72, sR_71_0, sR_71_1, sR_71_2, sR_71_3, sR_71_4, sT_73, sT_74, sT_75, sR_73_0, sR_73_1, sR_73_2, sR_73_3, sR_73_4, sR_73_5, sT_84, sT_85, sT_86, sT_87, sR_84_0, sR_84_1, sR_84_2, sR_84_3, sR_84_4, sR_84_5, sT_88, sT_89, sR_88_0, sT_90, sT_91, sR_90_0, c1, c2, y1, y2, t1, t2]
theorem e_B_hasRoom {A : AS} {h : jHp} (x : CX A h) {p f : Nat} (hp : p < 7) (hf : f < 4) : f_B_hasRoom [.ref 2, .int (nI p), .int (nI f)] h = some (some (.int (if aNb A ≠ 20 ∧ cntN (fun b => aPe A b == p) (aNb A) ≠ 5 ∧ cntN (fun b => aOf A b == f) (aNb A) ≠ 8 then 1 else 0)), h) := by
  obtain ⟨hs, w, cb, -⟩ := x
  have h20 := w.2.2.1.1
  have h8 := w.2.2.1.2.2.1 f
  have h5 := w.2.2.1.2.2.2 p
  have c0 := cb.1
  have c10 := cb.2.2.1 f hf
  have c11 := (cb.2.2.2 p hp).1
  generalize cntN (fun b => aPe A b == p) (aNb A) = Q at *
  generalize cntN (fun b => aOf A b == f) (aNb A) = F at *
  by_cases z1 : aNb A = 20
  · rw [if_neg (fun q => q.1 z1)]
    rw [z1] at c0
    simp (disch := first | assumption | omega) [f_B_hasRoom, body_B_hasRoom, j_meth, j_out, j_rok, j_pad, lg_sl, s_seq_w, isN_inl, isN_inr, s_if, jb, x_c, x_iloc, x_aloc, x_lloc, x_bin, x_un, o_add, o_sub, o_mul, o_and, o_or, o_xor, o_shl, o_shr, o_ushr, o_max, o_min, o_i2b, o_i2c, o_i2l, o_l2i, x_fld, j_fget, x_idx, j_aget, x_len, j_alen, x_ofb, x_ite, xs_nil, xs_cons, x_callv, x_calls, s_callv, s_calls, j_recv, j_ret, j_retv, b_cmp, b_and, b_or, b_not, b_ofi, b_ite, b_true, s_skip, s_set, j_ty, j_lset, j_kill, s_inc, s_fput, j_fput, s_fop, s_aput, j_aput, j_nar, s_aop, s_ret, s_retv, s_go, s_pop, x_linc, x_finc, Value.category, if_icmp.holds, List.flatMap_cons, List.flatMap_nil, List.length_cons, List.length_append, List.length_nil, List.set_cons_succ, List.set_cons_zero, List.getElem?_cons_succ, List.getElem?_cons_zero, List.replicate, ite_and', ite_or', ite_int', nI_leI, nI_ltI, nI_eq, nI_add, nI_1, pk_mul, nI_clamp, n_in', nI_pos', nI_pos, n_m1e, n_01, n_10, sT_1, sR_1_0, sR_1_1, sR_1_2, sR_1_3, sR_1_4, sR_1_5, sR_1_6, sR_1_7, sR_1_8, sR_1_9, sT_2, sT_3, sT_4, sT_5, sT_6, sT_7, sT_8, sT_9, sT_10, sT_11, sT_12, sT_13, sT_14, sR_2_1, sR_2_2, sR_2_3, sR_2_4, sR_2_5, sR_2_6, sR_2_7, sR_2_8, sR_2_9, sR_2_10, sR_2_11, sR_2_12, sT_15, sT_16, sT_17, sT_18, sT_19, sT_20, sT_21, sT_22, sT_23, sR_15_1, sR_15_2, sR_15_3, sR_15_4, sR_15_5, sR_15_6, sR_15_7, sR_15_8, sT_24, sT_25, sT_26, sT_27, sT_28, sT_29, sR_24_1, sR_24_2, sR_24_3, sR_24_4, sR_24_5, sT_71, sT_72, sR_71_0, sR_71_1, sR_71_2, sR_71_3, sR_71_4, sT_73, sT_74, sT_75, sR_73_0, sR_73_1, sR_73_2, sR_73_3, sR_73_4, sR_73_5, sT_84, sT_85, sT_86, sT_87, sR_84_0, sR_84_1, sR_84_2, sR_84_3, sR_84_4, sR_84_5, sT_88, sT_89, sR_88_0, sT_90, sT_91, sR_90_0, c0]
  have z1' : aNb A < 20 := by omega
  by_cases z2 : F = 8
  · rw [if_neg (fun q => q.2.2 z2)]
    rw [z2] at c10
    simp (disch := first | assumption | omega) [f_B_hasRoom, body_B_hasRoom, j_meth, j_out, j_rok, j_pad, lg_sl, s_seq_w, isN_inl, isN_inr, s_if, jb, x_c, x_iloc, x_aloc, x_lloc, x_bin, x_un, o_add, o_sub, o_mul, o_and, o_or, o_xor, o_shl, o_shr, o_ushr, o_max, o_min, o_i2b, o_i2c, o_i2l, o_l2i, x_fld, j_fget, x_idx, j_aget, x_len, j_alen, x_ofb, x_ite, xs_nil, xs_cons, x_callv, x_calls, s_callv, s_calls, j_recv, j_ret, j_retv, b_cmp, b_and, b_or, b_not, b_ofi, b_ite, b_true, s_skip, s_set, j_ty, j_lset, j_kill, s_inc, s_fput, j_fput, s_fop, s_aput, j_aput, j_nar, s_aop, s_ret, s_retv, s_go, s_pop, x_linc, x_finc, Value.category, if_icmp.holds, List.flatMap_cons, List.flatMap_nil, List.length_cons, List.length_append, List.length_nil, List.set_cons_succ, List.set_cons_zero, List.getElem?_cons_succ, List.getElem?_cons_zero, List.replicate, ite_and', ite_or', ite_int', nI_leI, nI_ltI, nI_eq, nI_add, nI_1, pk_mul, nI_clamp, n_in', nI_pos', nI_pos, n_m1e, n_01, n_10, sT_1, sR_1_0, sR_1_1, sR_1_2, sR_1_3, sR_1_4, sR_1_5, sR_1_6, sR_1_7, sR_1_8, sR_1_9, sT_2, sT_3, sT_4, sT_5, sT_6, sT_7, sT_8, sT_9, sT_10, sT_11, sT_12, sT_13, sT_14, sR_2_1, sR_2_2, sR_2_3, sR_2_4, sR_2_5, sR_2_6, sR_2_7, sR_2_8, sR_2_9, sR_2_10, sR_2_11, sR_2_12, sT_15, sT_16, sT_17, sT_18, sT_19, sT_20, sT_21, sT_22, sT_23, sR_15_1, sR_15_2, sR_15_3, sR_15_4, sR_15_5, sR_15_6, sR_15_7, sR_15_8, sT_24, sT_25, sT_26, sT_27, sT_28, sT_29, sR_24_1, sR_24_2, sR_24_3, sR_24_4, sR_24_5, sT_71, sT_72, sR_71_0, sR_71_1, sR_71_2, sR_71_3, sR_71_4, sT_73, sT_74, sT_75, sR_73_0, sR_73_1, sR_73_2, sR_73_3, sR_73_4, sR_73_5, sT_84, sT_85, sT_86, sT_87, sR_84_0, sR_84_1, sR_84_2, sR_84_3, sR_84_4, sR_84_5, sT_88, sT_89, sR_88_0, sT_90, sT_91, sR_90_0, c0, z1', c10]
  have z2' : F < 8 := by omega
  by_cases z3 : Q = 5
  · rw [if_neg (fun q => q.2.1 z3)]
    rw [z3] at c11
    simp (disch := first | assumption | omega) [f_B_hasRoom, body_B_hasRoom, j_meth, j_out, j_rok, j_pad, lg_sl, s_seq_w, isN_inl, isN_inr, s_if, jb, x_c, x_iloc, x_aloc, x_lloc, x_bin, x_un, o_add, o_sub, o_mul, o_and, o_or, o_xor, o_shl, o_shr, o_ushr, o_max, o_min, o_i2b, o_i2c, o_i2l, o_l2i, x_fld, j_fget, x_idx, j_aget, x_len, j_alen, x_ofb, x_ite, xs_nil, xs_cons, x_callv, x_calls, s_callv, s_calls, j_recv, j_ret, j_retv, b_cmp, b_and, b_or, b_not, b_ofi, b_ite, b_true, s_skip, s_set, j_ty, j_lset, j_kill, s_inc, s_fput, j_fput, s_fop, s_aput, j_aput, j_nar, s_aop, s_ret, s_retv, s_go, s_pop, x_linc, x_finc, Value.category, if_icmp.holds, List.flatMap_cons, List.flatMap_nil, List.length_cons, List.length_append, List.length_nil, List.set_cons_succ, List.set_cons_zero, List.getElem?_cons_succ, List.getElem?_cons_zero, List.replicate, ite_and', ite_or', ite_int', nI_leI, nI_ltI, nI_eq, nI_add, nI_1, pk_mul, nI_clamp, n_in', nI_pos', nI_pos, n_m1e, n_01, n_10, sT_1, sR_1_0, sR_1_1, sR_1_2, sR_1_3, sR_1_4, sR_1_5, sR_1_6, sR_1_7, sR_1_8, sR_1_9, sT_2, sT_3, sT_4, sT_5, sT_6, sT_7, sT_8, sT_9, sT_10, sT_11, sT_12, sT_13, sT_14, sR_2_1, sR_2_2, sR_2_3, sR_2_4, sR_2_5, sR_2_6, sR_2_7, sR_2_8, sR_2_9, sR_2_10, sR_2_11, sR_2_12, sT_15, sT_16, sT_17, sT_18, sT_19, sT_20, sT_21, sT_22, sT_23, sR_15_1, sR_15_2, sR_15_3, sR_15_4, sR_15_5, sR_15_6, sR_15_7, sR_15_8, sT_24, sT_25, sT_26, sT_27, sT_28, sT_29, sR_24_1, sR_24_2, sR_24_3, sR_24_4, sR_24_5, sT_71, sT_72, sR_71_0, sR_71_1, sR_71_2, sR_71_3, sR_71_4, sT_73, sT_74, sT_75, sR_73_0, sR_73_1, sR_73_2, sR_73_3, sR_73_4, sR_73_5, sT_84, sT_85, sT_86, sT_87, sR_84_0, sR_84_1, sR_84_2, sR_84_3, sR_84_4, sR_84_5, sT_88, sT_89, sR_88_0, sT_90, sT_91, sR_90_0, c0, z1', c10, z2', c11]
  have z3' : Q < 5 := by omega
  rw [if_pos ⟨z1, z3, z2⟩]
  simp (disch := first | assumption | omega) [f_B_hasRoom, body_B_hasRoom, j_meth, j_out, j_rok, j_pad, lg_sl, s_seq_w, isN_inl, isN_inr, s_if, jb, x_c, x_iloc, x_aloc, x_lloc, x_bin, x_un, o_add, o_sub, o_mul, o_and, o_or, o_xor, o_shl, o_shr, o_ushr, o_max, o_min, o_i2b, o_i2c, o_i2l, o_l2i, x_fld, j_fget, x_idx, j_aget, x_len, j_alen, x_ofb, x_ite, xs_nil, xs_cons, x_callv, x_calls, s_callv, s_calls, j_recv, j_ret, j_retv, b_cmp, b_and, b_or, b_not, b_ofi, b_ite, b_true, s_skip, s_set, j_ty, j_lset, j_kill, s_inc, s_fput, j_fput, s_fop, s_aput, j_aput, j_nar, s_aop, s_ret, s_retv, s_go, s_pop, x_linc, x_finc, Value.category, if_icmp.holds, List.flatMap_cons, List.flatMap_nil, List.length_cons, List.length_append, List.length_nil, List.set_cons_succ, List.set_cons_zero, List.getElem?_cons_succ, List.getElem?_cons_zero, List.replicate, ite_and', ite_or', ite_int', nI_leI, nI_ltI, nI_eq, nI_add, nI_1, pk_mul, nI_clamp, n_in', nI_pos', nI_pos, n_m1e, n_01, n_10, sT_1, sR_1_0, sR_1_1, sR_1_2, sR_1_3, sR_1_4, sR_1_5, sR_1_6, sR_1_7, sR_1_8, sR_1_9, sT_2, sT_3, sT_4, sT_5, sT_6, sT_7, sT_8, sT_9, sT_10, sT_11, sT_12, sT_13, sT_14, sR_2_1, sR_2_2, sR_2_3, sR_2_4, sR_2_5, sR_2_6, sR_2_7, sR_2_8, sR_2_9, sR_2_10, sR_2_11, sR_2_12, sT_15, sT_16, sT_17, sT_18, sT_19, sT_20, sT_21, sT_22, sT_23, sR_15_1, sR_15_2, sR_15_3, sR_15_4, sR_15_5, sR_15_6, sR_15_7, sR_15_8, sT_24, sT_25, sT_26, sT_27, sT_28, sT_29, sR_24_1, sR_24_2, sR_24_3, sR_24_4, sR_24_5, sT_71, sT_72, sR_71_0, sR_71_1, sR_71_2, sR_71_3, sR_71_4, sT_73, sT_74, sT_75, sR_73_0, sR_73_1, sR_73_2, sR_73_3, sR_73_4, sR_73_5, sT_84, sT_85, sT_86, sT_87, sR_84_0, sR_84_1, sR_84_2, sR_84_3, sR_84_4, sR_84_5, sT_88, sT_89, sR_88_0, sT_90, sT_91, sR_90_0, c0, z1', c10, z2', c11, z3']
theorem ag_bond {A : AS} (p f c y t : Nat) {k : Nat} (hk : k ≠ f) : TkAg A (aBond A p f c y t) k := by
  refine ⟨Nat.le_succ _, Nat.le_refl _, fun b hb => ⟨updN_ne _ _ (by omega), updN_ne _ _ (by omega), updN_ne _ _ (by omega), updN_ne _ _ (by omega), updN_ne _ _ (by omega)⟩, fun b h1 h2 => ?_, fun p _ => rfl, rfl⟩
  have h2' : b < aNb A + 1 := h2
  have : b = aNb A := by omega
  rw [this]
  show updN (aOf A) (aNb A) f (aNb A) ≠ k
  rw [updN_eq]
  exact fun e => hk e.symm
theorem bd_idx (A : AS) (p f c y t : Nat) {b : Nat} (hb : b < aNb A) : sIdx (aBond A p f c y t) b = sIdx A b := cntN_congr fun d hd => by
  show (updN (aOf A) (aNb A) f d == updN (aOf A) (aNb A) f b) = _
  rw [updN_ne _ _ (by omega), updN_ne _ _ (by omega)]
theorem bd_pidx (A : AS) (p f c y t : Nat) {b : Nat} (hb : b < aNb A) : pIdx (aBond A p f c y t) b = pIdx A b := cntN_congr fun d hd => by
  show (updN (aPe A) (aNb A) p d == updN (aPe A) (aNb A) p b) = _
  rw [updN_ne _ _ (by omega), updN_ne _ _ (by omega)]
theorem bd_slot (A : AS) (p f c y t : Nat) {b : Nat} (hb : b < aNb A) : sSlot (aBond A p f c y t) b = sSlot A b := by
  unfold sSlot
  rw [bd_idx A p f c y t hb]
  show 8 * updN (aOf A) (aNb A) f b + _ = _
  rw [updN_ne _ _ (by omega)]
theorem bd_slotN (A : AS) (p f c y t : Nat) : sSlot (aBond A p f c y t) (aNb A) = 8 * f + nOf A f := by
  unfold sSlot sIdx nOf
  show 8 * updN (aOf A) (aNb A) f (aNb A) + cntN (fun d => updN (aOf A) (aNb A) f d == updN (aOf A) (aNb A) f (aNb A)) (aNb A) = _
  rw [updN_eq]
  congr 1
  exact cntN_congr fun d hd => by rw [updN_ne _ _ (by omega)]
theorem bd_pidxN (A : AS) (p f c y t : Nat) : pIdx (aBond A p f c y t) (aNb A) = cntN (fun b => aPe A b == p) (aNb A) := by
  unfold pIdx
  show cntN (fun d => updN (aPe A) (aNb A) p d == updN (aPe A) (aNb A) p (aNb A)) (aNb A) = _
  rw [updN_eq]
  exact cntN_congr fun d hd => by rw [updN_ne _ _ (by omega)]
theorem bd_setP (A : AS) (p f c y t q : Nat) : setP (aBond A p f c y t) q = if p = q then setP A q ||| 2 ^ aNb A else setP A q := by
  have h1 : setP (aBond A p f c y t) q = if updN (aPe A) (aNb A) p (aNb A) == q then nfo (fun b m => if updN (aPe A) (aNb A) p b == q then m ||| 2 ^ b else m) (aNb A) 0 ||| 2 ^ aNb A else nfo (fun b m => if updN (aPe A) (aNb A) p b == q then m ||| 2 ^ b else m) (aNb A) 0 := rfl
  have h2 : nfo (fun b m => if updN (aPe A) (aNb A) p b == q then m ||| 2 ^ b else m) (aNb A) 0 = setP A q := nfo_cg _ (fun b s hb => by rw [updN_ne _ _ (by omega)]) 0
  rw [h1, h2, updN_eq]
  by_cases e : p = q <;> simp [e]
theorem bd_slP (A : AS) (p f c y t q : Nat) : slP (aBond A p f c y t) q = if p = q then slP A q ||| 2 ^ (8 * f + nOf A f) else slP A q := by
  have h1 : slP (aBond A p f c y t) q = if updN (aPe A) (aNb A) p (aNb A) == q then nfo (fun b m => if updN (aPe A) (aNb A) p b == q then m ||| 2 ^ sSlot (aBond A p f c y t) b else m) (aNb A) 0 ||| 2 ^ sSlot (aBond A p f c y t) (aNb A) else nfo (fun b m => if updN (aPe A) (aNb A) p b == q then m ||| 2 ^ sSlot (aBond A p f c y t) b else m) (aNb A) 0 := rfl
  have h2 : nfo (fun b m => if updN (aPe A) (aNb A) p b == q then m ||| 2 ^ sSlot (aBond A p f c y t) b else m) (aNb A) 0 = slP A q := nfo_cg _ (fun b s hb => by rw [updN_ne _ _ (by omega), bd_slot A p f c y t hb]) 0
  rw [h1, h2, updN_eq, bd_slotN]
  by_cases e : p = q <;> simp [e]
theorem bd_lsM {A : AS} (p f c y t : Nat) {l : List Nat} (hl : ∀ b ∈ l, b < aNb A) : lsM (aBond A p f c y t) l = lsM A l := by
  unfold lsM
  generalize (0 : Nat) = m
  induction l generalizing m with
  | nil => rfl
  | cons b l ih =>
    simp only [List.foldl_cons]
    rw [bd_slot A p f c y t (hl b (by simp))]
    exact ih (fun b hb => hl b (by simp [hb])) _
theorem bd_slM {A : AS} (p f c y t : Nat) {S : Nat} (hS : S < 2 ^ aNb A) : slM (aBond A p f c y t) S = slM A S := by
  have h1 : slM (aBond A p f c y t) S = if S.testBit (aNb A) then nfo (fun b m => if S.testBit b then m ||| 2 ^ sSlot (aBond A p f c y t) b else m) (aNb A) 0 ||| 2 ^ sSlot (aBond A p f c y t) (aNb A) else nfo (fun b m => if S.testBit b then m ||| 2 ^ sSlot (aBond A p f c y t) b else m) (aNb A) 0 := rfl
  rw [h1, tb_false hS (Nat.le_refl _), if_neg (by decide)]
  exact nfo_cg _ (fun b s hb => by rw [bd_slot A p f c y t hb]) 0
theorem bd_plc {A : AS} (w : WF A) (p f c y t : Nat) {b : Nat} (hb : b < aNb A + 1) : sPlc (aBond A p f c y t) b = if b < aNb A then sPlc A b else none := by
  by_cases e : b < aNb A
  · rw [if_pos e]
    have h : sPlc (aBond A p f c y t) b = fst1 (fun k => (aLl A (updN (aPe A) (aNb A) p b)).getD k 0 == b) (aLl A (updN (aPe A) (aNb A) p b)).length := rfl
    rw [h, updN_ne _ _ (by omega)]
    rfl
  · rw [if_neg e]
    refine sPlc_none.mpr fun hm => ?_
    have := ((w.2.2.2.1 (aPe (aBond A p f c y t) b)).2.2.2 b hm).1
    exact e this
theorem o_S_bond {A : AS} {tx : List Nat} {rw : List Int32} {h : jHp} (r : RC A tx rw h) (x f c y t : Int32) : ∃ h', f_S_bond [.ref 1, .int x, .int f, .int c, .int y, .int t] h = some (some (.int (vBond A x f c y t).1), h') ∧ RC (vBond A x f c y t).2 tx rw h' ∧ FC h h' := by
  have r0 := r
  obtain ⟨mk, ⟨ca, bl, d, sp⟩, c11, ct, cr, cs⟩ := r
  have hs := mk.1.1
  have w := mk.1.2.1
  have cb := mk.1.2.2.1
  have cp := mk.1.2.2.2
  have cc := mk.2
  have hn := w.1.1
  have hno := w.2.1
  have h20 := w.2.2.1.1
  have s77 := sT_77 hs
  have ex := e_P_has hs w cp x
  have ef := e_S_hasOffice hs w c11 f
  have h10 : ((1 : Int32) = 0) = False := by decide
  unfold vBond
  by_cases hx : j_in x (aNp A) = true
  case neg =>
    rw [if_neg hx] at ex
    rw [if_neg (fun q => hx q.1)]
    refine ⟨h, ?_, r0, FC_refl h⟩
    simp (disch := first | assumption | omega) [f_S_bond, bnd_body, bnd_1, j_meth, j_out, j_rok, j_pad, lg_sl, s_seq_w, isN_inl, isN_inr, s_if, jb, x_c, x_iloc, x_aloc, x_lloc, x_bin, x_un, o_add, o_sub, o_mul, o_and, o_or, o_xor, o_shl, o_shr, o_ushr, o_max, o_min, o_i2b, o_i2c, o_i2l, o_l2i, x_fld, j_fget, x_idx, j_aget, x_len, j_alen, x_ofb, x_ite, xs_nil, xs_cons, x_callv, x_calls, s_callv, s_calls, j_recv, j_ret, j_retv, b_cmp, b_and, b_or, b_not, b_ofi, b_ite, b_true, s_skip, s_set, j_ty, j_lset, j_kill, s_inc, s_fput, j_fput, s_fop, s_aput, j_aput, j_nar, s_aop, s_ret, s_retv, s_go, s_pop, x_linc, x_finc, Value.category, if_icmp.holds, List.flatMap_cons, List.flatMap_nil, List.length_cons, List.length_append, List.length_nil, List.set_cons_succ, List.set_cons_zero, List.getElem?_cons_succ, List.getElem?_cons_zero, List.replicate, ite_and', ite_or', ite_int', nI_leI, nI_ltI, nI_eq, nI_add, nI_1, pk_mul, nI_clamp, n_in', nI_pos', nI_pos, n_m1e, n_01, n_10, sT_1, sR_1_0, sR_1_1, sR_1_2, sR_1_3, sR_1_4, sR_1_5, sR_1_6, sR_1_7, sR_1_8, sR_1_9, sT_2, sT_3, sT_4, sT_5, sT_6, sT_7, sT_8, sT_9, sT_10, sT_11, sT_12, sT_13, sT_14, sR_2_1, sR_2_2, sR_2_3, sR_2_4, sR_2_5, sR_2_6, sR_2_7, sR_2_8, sR_2_9, sR_2_10, sR_2_11, sR_2_12, sT_15, sT_16, sT_17, sT_18, sT_19, sT_20, sT_21, sT_22, sT_23, sR_15_1, sR_15_2, sR_15_3, sR_15_4, sR_15_5, sR_15_6, sR_15_7, sR_15_8, sT_24, sT_25, sT_26, sT_27, sT_28, sT_29, sR_24_1, sR_24_2, sR_24_3, sR_24_4, sR_24_5, sT_71, sT_72, sR_71_0, sR_71_1, sR_71_2, sR_71_3, sR_71_4, sT_73, sT_74, sT_75, sR_73_0, sR_73_1, sR_73_2, sR_73_3, sR_73_4, sR_73_5, sT_84, sT_85, sT_86, sT_87, sR_84_0, sR_84_1, sR_84_2, sR_84_3, sR_84_4, sR_84_5, sT_88, sT_89, sR_88_0, sT_90, sT_91, sR_90_0, ex]
  rw [if_pos hx] at ex
  by_cases hf : j_in f (aNo A) = true
  case neg =>
    rw [if_neg hf] at ef
    rw [if_neg (fun q => hf q.2.1)]
    refine ⟨h, ?_, r0, FC_refl h⟩
    simp (disch := first | assumption | omega) [f_S_bond, bnd_body, bnd_1, j_meth, j_out, j_rok, j_pad, lg_sl, s_seq_w, isN_inl, isN_inr, s_if, jb, x_c, x_iloc, x_aloc, x_lloc, x_bin, x_un, o_add, o_sub, o_mul, o_and, o_or, o_xor, o_shl, o_shr, o_ushr, o_max, o_min, o_i2b, o_i2c, o_i2l, o_l2i, x_fld, j_fget, x_idx, j_aget, x_len, j_alen, x_ofb, x_ite, xs_nil, xs_cons, x_callv, x_calls, s_callv, s_calls, j_recv, j_ret, j_retv, b_cmp, b_and, b_or, b_not, b_ofi, b_ite, b_true, s_skip, s_set, j_ty, j_lset, j_kill, s_inc, s_fput, j_fput, s_fop, s_aput, j_aput, j_nar, s_aop, s_ret, s_retv, s_go, s_pop, x_linc, x_finc, Value.category, if_icmp.holds, List.flatMap_cons, List.flatMap_nil, List.length_cons, List.length_append, List.length_nil, List.set_cons_succ, List.set_cons_zero, List.getElem?_cons_succ, List.getElem?_cons_zero, List.replicate, ite_and', ite_or', ite_int', nI_leI, nI_ltI, nI_eq, nI_add, nI_1, pk_mul, nI_clamp, n_in', nI_pos', nI_pos, n_m1e, n_01, n_10, sT_1, sR_1_0, sR_1_1, sR_1_2, sR_1_3, sR_1_4, sR_1_5, sR_1_6, sR_1_7, sR_1_8, sR_1_9, sT_2, sT_3, sT_4, sT_5, sT_6, sT_7, sT_8, sT_9, sT_10, sT_11, sT_12, sT_13, sT_14, sR_2_1, sR_2_2, sR_2_3, sR_2_4, sR_2_5, sR_2_6, sR_2_7, sR_2_8, sR_2_9, sR_2_10, sR_2_11, sR_2_12, sT_15, sT_16, sT_17, sT_18, sT_19, sT_20, sT_21, sT_22, sT_23, sR_15_1, sR_15_2, sR_15_3, sR_15_4, sR_15_5, sR_15_6, sR_15_7, sR_15_8, sT_24, sT_25, sT_26, sT_27, sT_28, sT_29, sR_24_1, sR_24_2, sR_24_3, sR_24_4, sR_24_5, sT_71, sT_72, sR_71_0, sR_71_1, sR_71_2, sR_71_3, sR_71_4, sT_73, sT_74, sT_75, sR_73_0, sR_73_1, sR_73_2, sR_73_3, sR_73_4, sR_73_5, sT_84, sT_85, sT_86, sT_87, sR_84_0, sR_84_1, sR_84_2, sR_84_3, sR_84_4, sR_84_5, sT_88, sT_89, sR_88_0, sT_90, sT_91, sR_90_0, ex, h10, ef]
  rw [if_pos hf] at ef
  obtain ⟨p, hp, rfl⟩ := j_in_ex hx (by omega)
  obtain ⟨f, hf', rfl⟩ := j_in_ex hf (by omega)
  unfold bdOk
  rw [nI_clamp (by omega), nI_clamp (by omega)]
  have er := e_B_hasRoom mk.1 (p := p) (f := f) (by omega) (by omega)
  by_cases hr : aNb A ≠ 20 ∧ cntN (fun b => aPe A b == p) (aNb A) ≠ 5 ∧ cntN (fun b => aOf A b == f) (aNb A) ≠ 8
  case neg =>
    rw [if_neg hr] at er
    rw [if_neg (fun q => hr q.2.2.2.2.2)]
    refine ⟨h, ?_, r0, FC_refl h⟩
    simp (disch := first | assumption | omega) [f_S_bond, bnd_body, bnd_1, j_meth, j_out, j_rok, j_pad, lg_sl, s_seq_w, isN_inl, isN_inr, s_if, jb, x_c, x_iloc, x_aloc, x_lloc, x_bin, x_un, o_add, o_sub, o_mul, o_and, o_or, o_xor, o_shl, o_shr, o_ushr, o_max, o_min, o_i2b, o_i2c, o_i2l, o_l2i, x_fld, j_fget, x_idx, j_aget, x_len, j_alen, x_ofb, x_ite, xs_nil, xs_cons, x_callv, x_calls, s_callv, s_calls, j_recv, j_ret, j_retv, b_cmp, b_and, b_or, b_not, b_ofi, b_ite, b_true, s_skip, s_set, j_ty, j_lset, j_kill, s_inc, s_fput, j_fput, s_fop, s_aput, j_aput, j_nar, s_aop, s_ret, s_retv, s_go, s_pop, x_linc, x_finc, Value.category, if_icmp.holds, List.flatMap_cons, List.flatMap_nil, List.length_cons, List.length_append, List.length_nil, List.set_cons_succ, List.set_cons_zero, List.getElem?_cons_succ, List.getElem?_cons_zero, List.replicate, ite_and', ite_or', ite_int', nI_leI, nI_ltI, nI_eq, nI_add, nI_1, pk_mul, nI_clamp, n_in', nI_pos', nI_pos, n_m1e, n_01, n_10, sT_1, sR_1_0, sR_1_1, sR_1_2, sR_1_3, sR_1_4, sR_1_5, sR_1_6, sR_1_7, sR_1_8, sR_1_9, sT_2, sT_3, sT_4, sT_5, sT_6, sT_7, sT_8, sT_9, sT_10, sT_11, sT_12, sT_13, sT_14, sR_2_1, sR_2_2, sR_2_3, sR_2_4, sR_2_5, sR_2_6, sR_2_7, sR_2_8, sR_2_9, sR_2_10, sR_2_11, sR_2_12, sT_15, sT_16, sT_17, sT_18, sT_19, sT_20, sT_21, sT_22, sT_23, sR_15_1, sR_15_2, sR_15_3, sR_15_4, sR_15_5, sR_15_6, sR_15_7, sR_15_8, sT_24, sT_25, sT_26, sT_27, sT_28, sT_29, sR_24_1, sR_24_2, sR_24_3, sR_24_4, sR_24_5, sT_71, sT_72, sR_71_0, sR_71_1, sR_71_2, sR_71_3, sR_71_4, sT_73, sT_74, sT_75, sR_73_0, sR_73_1, sR_73_2, sR_73_3, sR_73_4, sR_73_5, sT_84, sT_85, sT_86, sT_87, sR_84_0, sR_84_1, sR_84_2, sR_84_3, sR_84_4, sR_84_5, sT_88, sT_89, sR_88_0, sT_90, sT_91, sR_90_0, ex, h10, ef, er]
  rw [if_pos hr] at er
  have e1 : bnd_1 ([.ref 1, .int (nI p), .int (nI f), .int c, .int y, .int t], h) = some (.inl 0, ([.ref 1, .int (nI p), .int (nI f), .int c, .int y, .int t], h)) := by
    simp (disch := first | assumption | omega) [bnd_1, j_meth, j_out, j_rok, j_pad, lg_sl, s_seq_w, isN_inl, isN_inr, s_if, jb, x_c, x_iloc, x_aloc, x_lloc, x_bin, x_un, o_add, o_sub, o_mul, o_and, o_or, o_xor, o_shl, o_shr, o_ushr, o_max, o_min, o_i2b, o_i2c, o_i2l, o_l2i, x_fld, j_fget, x_idx, j_aget, x_len, j_alen, x_ofb, x_ite, xs_nil, xs_cons, x_callv, x_calls, s_callv, s_calls, j_recv, j_ret, j_retv, b_cmp, b_and, b_or, b_not, b_ofi, b_ite, b_true, s_skip, s_set, j_ty, j_lset, j_kill, s_inc, s_fput, j_fput, s_fop, s_aput, j_aput, j_nar, s_aop, s_ret, s_retv, s_go, s_pop, x_linc, x_finc, Value.category, if_icmp.holds, List.flatMap_cons, List.flatMap_nil, List.length_cons, List.length_append, List.length_nil, List.set_cons_succ, List.set_cons_zero, List.getElem?_cons_succ, List.getElem?_cons_zero, List.replicate, ite_and', ite_or', ite_int', nI_leI, nI_ltI, nI_eq, nI_add, nI_1, pk_mul, nI_clamp, n_in', nI_pos', nI_pos, n_m1e, n_01, n_10, sT_1, sR_1_0, sR_1_1, sR_1_2, sR_1_3, sR_1_4, sR_1_5, sR_1_6, sR_1_7, sR_1_8, sR_1_9, sT_2, sT_3, sT_4, sT_5, sT_6, sT_7, sT_8, sT_9, sT_10, sT_11, sT_12, sT_13, sT_14, sR_2_1, sR_2_2, sR_2_3, sR_2_4, sR_2_5, sR_2_6, sR_2_7, sR_2_8, sR_2_9, sR_2_10, sR_2_11, sR_2_12, sT_15, sT_16, sT_17, sT_18, sT_19, sT_20, sT_21, sT_22, sT_23, sR_15_1, sR_15_2, sR_15_3, sR_15_4, sR_15_5, sR_15_6, sR_15_7, sR_15_8, sT_24, sT_25, sT_26, sT_27, sT_28, sT_29, sR_24_1, sR_24_2, sR_24_3, sR_24_4, sR_24_5, sT_71, sT_72, sR_71_0, sR_71_1, sR_71_2, sR_71_3, sR_71_4, sT_73, sT_74, sT_75, sR_73_0, sR_73_1, sR_73_2, sR_73_3, sR_73_4, sR_73_5, sT_84, sT_85, sT_86, sT_87, sR_84_0, sR_84_1, sR_84_2, sR_84_3, sR_84_4, sR_84_5, sT_88, sT_89, sR_88_0, sT_90, sT_91, sR_90_0, ex, h10, ef, er]
  have e2 := bnd_2_ok (v0 := .ref 1) (v1 := .int (nI p)) (v2 := .int (nI f)) (c := c) (y := y) (t := t) (h := h)
  by_cases hg : j_in c 100 = true ∧ j_in y 10 = true ∧ j_in t 10 = true
  case neg =>
    rw [if_neg hg] at e2
    rw [if_neg (fun q => hg ⟨q.2.2.1, q.2.2.2.1, q.2.2.2.2.1⟩)]
    refine ⟨h, ?_, r0, FC_refl h⟩
    simp (disch := first | assumption | omega) [f_S_bond, bnd_body, j_meth, j_out, j_rok, j_pad, lg_sl, s_seq_w, isN_inl, isN_inr, s_if, jb, x_c, x_iloc, x_aloc, x_lloc, x_bin, x_un, o_add, o_sub, o_mul, o_and, o_or, o_xor, o_shl, o_shr, o_ushr, o_max, o_min, o_i2b, o_i2c, o_i2l, o_l2i, x_fld, j_fget, x_idx, j_aget, x_len, j_alen, x_ofb, x_ite, xs_nil, xs_cons, x_callv, x_calls, s_callv, s_calls, j_recv, j_ret, j_retv, b_cmp, b_and, b_or, b_not, b_ofi, b_ite, b_true, s_skip, s_set, j_ty, j_lset, j_kill, s_inc, s_fput, j_fput, s_fop, s_aput, j_aput, j_nar, s_aop, s_ret, s_retv, s_go, s_pop, x_linc, x_finc, Value.category, if_icmp.holds, List.flatMap_cons, List.flatMap_nil, List.length_cons, List.length_append, List.length_nil, List.set_cons_succ, List.set_cons_zero, List.getElem?_cons_succ, List.getElem?_cons_zero, List.replicate, ite_and', ite_or', ite_int', nI_leI, nI_ltI, nI_eq, nI_add, nI_1, pk_mul, nI_clamp, n_in', nI_pos', nI_pos, n_m1e, n_01, n_10, sT_1, sR_1_0, sR_1_1, sR_1_2, sR_1_3, sR_1_4, sR_1_5, sR_1_6, sR_1_7, sR_1_8, sR_1_9, sT_2, sT_3, sT_4, sT_5, sT_6, sT_7, sT_8, sT_9, sT_10, sT_11, sT_12, sT_13, sT_14, sR_2_1, sR_2_2, sR_2_3, sR_2_4, sR_2_5, sR_2_6, sR_2_7, sR_2_8, sR_2_9, sR_2_10, sR_2_11, sR_2_12, sT_15, sT_16, sT_17, sT_18, sT_19, sT_20, sT_21, sT_22, sT_23, sR_15_1, sR_15_2, sR_15_3, sR_15_4, sR_15_5, sR_15_6, sR_15_7, sR_15_8, sT_24, sT_25, sT_26, sT_27, sT_28, sT_29, sR_24_1, sR_24_2, sR_24_3, sR_24_4, sR_24_5, sT_71, sT_72, sR_71_0, sR_71_1, sR_71_2, sR_71_3, sR_71_4, sT_73, sT_74, sT_75, sR_73_0, sR_73_1, sR_73_2, sR_73_3, sR_73_4, sR_73_5, sT_84, sT_85, sT_86, sT_87, sR_84_0, sR_84_1, sR_84_2, sR_84_3, sR_84_4, sR_84_5, sT_88, sT_89, sR_88_0, sT_90, sT_91, sR_90_0, e1, e2]
  rw [if_pos hg] at e2
  rw [if_pos ⟨hx, hf, hg.1, hg.2.1, hg.2.2, hr⟩]
  obtain ⟨c, hc, rfl⟩ := j_in_ex hg.1 (by omega)
  obtain ⟨y, hy, rfl⟩ := j_in_ex hg.2.1 (by omega)
  obtain ⟨t, ht, rfl⟩ := j_in_ex hg.2.2 (by omega)
  rw [nI_clamp (by omega), nI_clamp (by omega), nI_clamp (by omega)]
  have wB := WF_bond w hp hf' hc hy ht hr.1 hr.2.1 hr.2.2
  have h8 := w.2.2.1.2.2.1 f
  have h5 := w.2.2.1.2.2.2 p
  have f0 : Fr (fun a j => okM a j) h (hSetI h 77 4 (nI 0)) := Fr_set _ (Or.inr (Or.inl ⟨rfl, rfl⟩))
  have hs1 : Shape (hSetI h 77 4 (nI 0)) := hs
  have g1 : ∀ a j, hI (hSetI h 77 4 (nI 0)) a j = if a = 77 ∧ j = 4 then nI 0 else hI h a j := fun a j => by rw [hI_setI]
  generalize h1e : hSetI h 77 4 (nI 0) = h1 at *
  obtain ⟨h2, e4, f2, t2⟩ := e_D_forget (A := aBond A p f c y t) hs1 (k := f) (by omega)
  have hs2 := Fr_shape hs1 f2
  have g2 : ∀ a j, a ≤ 29 → hI h2 a j = hI h a j := fun a j ha => by
    rw [Fr_I f2 (fun q => by have := Wdk_lt (k := f) (by omega) q; omega), g1, if_neg (by omega)]
  obtain ⟨h3, e5, f3, g3⟩ := e_B_join hs2 (n := aNb A) (p := p) (f := f) (c := c) (y := y) (t := t) (F := nOf A f) (Q := cntN (fun b => aPe A b == p) (aNb A)) (sp := setP A p) (sl := slP A p) (by omega) (by omega) (by omega) (by unfold nOf; omega) (by omega) (by rw [g2 _ _ (by omega)]; exact cb.1) (by rw [g2 _ _ (by omega)]; exact cb.2.2.1 f (by omega)) (by rw [g2 _ _ (by omega)]; exact (cb.2.2.2 p (by omega)).1) (by rw [g2 _ _ (by omega)]; exact (cb.2.2.2 p (by omega)).2.1) (by rw [g2 _ _ (by omega)]; exact (cb.2.2.2 p (by omega)).2.2)
  have f3' : Fr (fun a j => okM a j) h2 h3 := Fr_mono f3 fun a j q => Or.inl (by omega)
  have ff : Fr (fun a j => okM a j ∨ Wds a j) h h3 := Fr_trans (Fr_mono f0 fun a j q => Or.inl q) (Fr_trans (Fr_mono f2 fun a j q => Or.inr ⟨f, by omega, q⟩) (Fr_mono f3' fun a j q => Or.inl q))
  have ghi : ∀ a j, 15 ≤ a → a ≤ 29 → hI h3 a j = hI h a j := fun a j h1 h2 => by rw [Fr_I f3 (by omega), g2 _ _ h2]
  have hlow : ∀ q, ∀ b ∈ aLl A q, b < aNb A := fun q b hb => ((w.2.2.2.1 q).2.2.2 b hb).1
  refine ⟨h3, ?_, RC_new (B := aBond A p f c y t) (ca := ca) (bl' := fun k => if k = f then 0 else bl k) r0 sp ff (fun a j q => q) wB ?_ ?_ ?_ ?_ ?_ ?_⟩
  · have hs3 := Fr_shape hs2 f3
    have hz : (nI 0 = (0 : Int32)) = True := by rw [nI_0]; simp
    obtain ⟨u1, -, -, -, -, -, -, -, -, r30⟩ := DSh_of hs1 (k := f) (by omega)
    have t30 := sT_30 hs1
    have n0 : dA f ≠ 0 := by unfold dA; omega
    clear d g1 g2 g3 f0 f2 f3 f3' ff wB r0 mk cs cp cb cc t2 ghi
    generalize dA f = D at *
    simp (disch := first | assumption | omega) [f_S_bond, bnd_body, j_meth, j_out, j_rok, j_pad, lg_sl, s_seq_w, isN_inl, isN_inr, s_if, jb, x_c, x_iloc, x_aloc, x_lloc, x_bin, x_un, o_add, o_sub, o_mul, o_and, o_or, o_xor, o_shl, o_shr, o_ushr, o_max, o_min, o_i2b, o_i2c, o_i2l, o_l2i, x_fld, j_fget, x_idx, j_aget, x_len, j_alen, x_ofb, x_ite, xs_nil, xs_cons, x_callv, x_calls, s_callv, s_calls, j_recv, j_ret, j_retv, b_cmp, b_and, b_or, b_not, b_ofi, b_ite, b_true, s_skip, s_set, j_ty, j_lset, j_kill, s_inc, s_fput, j_fput, s_fop, s_aput, j_aput, j_nar, s_aop, s_ret, s_retv, s_go, s_pop, x_linc, x_finc, Value.category, if_icmp.holds, List.flatMap_cons, List.flatMap_nil, List.length_cons, List.length_append, List.length_nil, List.set_cons_succ, List.set_cons_zero, List.getElem?_cons_succ, List.getElem?_cons_zero, List.replicate, ite_and', ite_or', ite_int', nI_leI, nI_ltI, nI_eq, nI_add, nI_1, pk_mul, nI_clamp, n_in', nI_pos', nI_pos, n_m1e, n_01, n_10, sT_1, sR_1_0, sR_1_1, sR_1_2, sR_1_3, sR_1_4, sR_1_5, sR_1_6, sR_1_7, sR_1_8, sR_1_9, sT_2, sT_3, sT_4, sT_5, sT_6, sT_7, sT_8, sT_9, sT_10, sT_11, sT_12, sT_13, sT_14, sR_2_1, sR_2_2, sR_2_3, sR_2_4, sR_2_5, sR_2_6, sR_2_7, sR_2_8, sR_2_9, sR_2_10, sR_2_11, sR_2_12, sT_15, sT_16, sT_17, sT_18, sT_19, sT_20, sT_21, sT_22, sT_23, sR_15_1, sR_15_2, sR_15_3, sR_15_4, sR_15_5, sR_15_6, sR_15_7, sR_15_8, sT_24, sT_25, sT_26, sT_27, sT_28, sT_29, sR_24_1, sR_24_2, sR_24_3, sR_24_4, sR_24_5, sT_71, sT_72, sR_71_0, sR_71_1, sR_71_2, sR_71_3, sR_71_4, sT_73, sT_74, sT_75, sR_73_0, sR_73_1, sR_73_2, sR_73_3, sR_73_4, sR_73_5, sT_84, sT_85, sT_86, sT_87, sR_84_0, sR_84_1, sR_84_2, sR_84_3, sR_84_4, sR_84_5, sT_88, sT_89, sR_88_0, sT_90, sT_91, sR_90_0, e1, e2, bnd_3, s77, hz, h1e, bnd_4, t30, r30, n0, u1, e4, bnd_5, e5]
  · obtain ⟨b0, b1, b2, b3⟩ := cb
    have hF : nOf A f = cntN (fun b => aOf A b == f) (aNb A) := rfl
    refine ⟨by rw [g3, if_pos ⟨rfl, rfl⟩]; rfl, fun b hb => ?_, fun g hg => ?_, fun q hq => ?_⟩
    · have hb' : b < aNb A + 1 := hb
      show hI h3 3 b = nI (updN (aPe A) (aNb A) p b) ∧ hI h3 4 b = nI (updN (aOf A) (aNb A) f b) ∧ hI h3 5 b = nI (updN (aPa A) (aNb A) c b) ∧ hI h3 6 b = nI (updN (aYe A) (aNb A) y b) ∧ hI h3 7 b = nI (updN (aTo A) (aNb A) t b) ∧ hI h3 8 b = nI (sSlot (aBond A p f c y t) b) ∧ hI h3 9 (sSlot (aBond A p f c y t) b) = nI b ∧ hI h3 12 (5 * updN (aPe A) (aNb A) p b + pIdx (aBond A p f c y t) b) = nI b
      by_cases e : b = aNb A
      · subst e
        rw [updN_eq, updN_eq, updN_eq, updN_eq, updN_eq, bd_slotN, bd_pidxN]
        refine ⟨by rw [g3, if_neg (by omega), if_neg (by omega), if_neg (by omega), if_neg (by omega), if_neg (by omega), if_neg (by omega), if_neg (by omega), if_neg (by omega), if_neg (by omega), if_neg (by omega), if_neg (by omega), if_neg (by omega), if_pos ⟨rfl, rfl⟩], by rw [g3, if_neg (by omega), if_neg (by omega), if_neg (by omega), if_neg (by omega), if_neg (by omega), if_neg (by omega), if_neg (by omega), if_neg (by omega), if_neg (by omega), if_neg (by omega), if_neg (by omega), if_pos ⟨rfl, rfl⟩], by rw [g3, if_neg (by omega), if_neg (by omega), if_neg (by omega), if_neg (by omega), if_neg (by omega), if_neg (by omega), if_neg (by omega), if_neg (by omega), if_neg (by omega), if_neg (by omega), if_pos ⟨rfl, rfl⟩], by rw [g3, if_neg (by omega), if_neg (by omega), if_neg (by omega), if_neg (by omega), if_neg (by omega), if_neg (by omega), if_neg (by omega), if_neg (by omega), if_neg (by omega), if_pos ⟨rfl, rfl⟩], by rw [g3, if_neg (by omega), if_neg (by omega), if_neg (by omega), if_neg (by omega), if_neg (by omega), if_neg (by omega), if_neg (by omega), if_neg (by omega), if_pos ⟨rfl, rfl⟩], by rw [g3, if_neg (by omega), if_neg (by omega), if_neg (by omega), if_neg (by omega), if_neg (by omega), if_neg (by omega), if_neg (by omega), if_pos ⟨rfl, rfl⟩], by rw [g3, if_neg (by omega), if_neg (by omega), if_neg (by omega), if_neg (by omega), if_neg (by omega), if_neg (by omega), if_pos ⟨rfl, rfl⟩], by rw [g3, if_neg (by omega), if_neg (by omega), if_neg (by omega), if_neg (by omega), if_neg (by omega), if_pos ⟨rfl, rfl⟩]⟩
      · have hbn : b < aNb A := by omega
        rw [updN_ne _ _ e, updN_ne _ _ e, updN_ne _ _ e, updN_ne _ _ e, updN_ne _ _ e, bd_slot A p f c y t hbn, bd_pidx A p f c y t hbn]
        obtain ⟨z1, z2, z3, z4, z5, z6, z7, z8⟩ := b1 b hbn
        have hsl : sSlot A b ≠ 8 * f + nOf A f := by
          have h1 := sIdx_lt w hbn
          unfold sSlot
          intro q
          have ho : aOf A b = f := by
            have := (sIdx_lt w hbn).2
            rw [hF] at q
            omega
          rw [ho] at h1 q
          rw [hF] at q
          omega
        have hpi : 5 * aPe A b + pIdx A b ≠ 5 * p + cntN (fun b => aPe A b == p) (aNb A) := by
          have h1 := cntN_lt (p := fun z => aPe A z == aPe A b) hbn (by simp)
          have h2 := pIdx_lt w hbn
          intro q
          have ho : aPe A b = p := by omega
          unfold pIdx at q h2
          rw [ho] at h1 q
          omega
        refine ⟨by rw [g3, if_neg (by omega), if_neg (by omega), if_neg (by omega), if_neg (by omega), if_neg (by omega), if_neg (by omega), if_neg (by omega), if_neg (by omega), if_neg (by omega), if_neg (by omega), if_neg (by omega), if_neg (by omega), if_neg (by omega), g2 _ _ (by omega)]; exact z1, by rw [g3, if_neg (by omega), if_neg (by omega), if_neg (by omega), if_neg (by omega), if_neg (by omega), if_neg (by omega), if_neg (by omega), if_neg (by omega), if_neg (by omega), if_neg (by omega), if_neg (by omega), if_neg (by omega), if_neg (by omega), g2 _ _ (by omega)]; exact z2, by rw [g3, if_neg (by omega), if_neg (by omega), if_neg (by omega), if_neg (by omega), if_neg (by omega), if_neg (by omega), if_neg (by omega), if_neg (by omega), if_neg (by omega), if_neg (by omega), if_neg (by omega), if_neg (by omega), if_neg (by omega), g2 _ _ (by omega)]; exact z3, by rw [g3, if_neg (by omega), if_neg (by omega), if_neg (by omega), if_neg (by omega), if_neg (by omega), if_neg (by omega), if_neg (by omega), if_neg (by omega), if_neg (by omega), if_neg (by omega), if_neg (by omega), if_neg (by omega), if_neg (by omega), g2 _ _ (by omega)]; exact z4, by rw [g3, if_neg (by omega), if_neg (by omega), if_neg (by omega), if_neg (by omega), if_neg (by omega), if_neg (by omega), if_neg (by omega), if_neg (by omega), if_neg (by omega), if_neg (by omega), if_neg (by omega), if_neg (by omega), if_neg (by omega), g2 _ _ (by omega)]; exact z5, by rw [g3, if_neg (by omega), if_neg (by omega), if_neg (by omega), if_neg (by omega), if_neg (by omega), if_neg (by omega), if_neg (by omega), if_neg (by omega), if_neg (by omega), if_neg (by omega), if_neg (by omega), if_neg (by omega), if_neg (by omega), g2 _ _ (by omega)]; exact z6, by rw [g3, if_neg (by omega), if_neg (by omega), if_neg (by omega), if_neg (by omega), if_neg (by omega), if_neg (by omega), if_neg (by omega), if_neg (by omega), if_neg (by omega), if_neg (by omega), if_neg (by omega), if_neg (by omega), if_neg (by omega), g2 _ _ (by omega)]; exact z7, by rw [g3, if_neg (by omega), if_neg (by omega), if_neg (by omega), if_neg (by omega), if_neg (by omega), if_neg (by omega), if_neg (by omega), if_neg (by omega), if_neg (by omega), if_neg (by omega), if_neg (by omega), if_neg (by omega), if_neg (by omega), g2 _ _ (by omega)]; exact z8⟩
    · show hI h3 10 g = nI (cntN (fun b => updN (aOf A) (aNb A) f b == g) (aNb A + 1))
      rw [cnt_upd]
      by_cases e : f = g
      · subst e
        rw [g3, if_neg (by omega), if_neg (by omega), if_pos ⟨rfl, rfl⟩, if_pos rfl]; rfl
      · rw [g3, if_neg (by omega), if_neg (by omega), if_neg (by omega), if_neg (by omega), if_neg (by omega), if_neg (by omega), if_neg (by omega), if_neg (by omega), if_neg (by omega), if_neg (by omega), if_neg (by omega), if_neg (by omega), if_neg (by omega), g2 _ _ (by omega), if_neg e, Nat.add_zero]
        exact b2 g hg
    · show hI h3 11 q = nI (cntN (fun b => updN (aPe A) (aNb A) p b == q) (aNb A + 1)) ∧ hI h3 13 q = nI (setP (aBond A p f c y t) q) ∧ hI h3 14 q = nI (slP (aBond A p f c y t) q)
      rw [cnt_upd, bd_setP, bd_slP]
      by_cases e : p = q
      · subst e
        rw [if_pos rfl, if_pos rfl, if_pos rfl]
        exact ⟨by rw [g3, if_neg (by omega), if_pos ⟨rfl, rfl⟩], by rw [g3, if_neg (by omega), if_neg (by omega), if_neg (by omega), if_neg (by omega), if_pos ⟨rfl, rfl⟩], by rw [g3, if_neg (by omega), if_neg (by omega), if_neg (by omega), if_pos ⟨rfl, rfl⟩]⟩
      · rw [if_neg e, if_neg e, if_neg e, Nat.add_zero]
        obtain ⟨z1, z2, z3⟩ := b3 q hq
        exact ⟨by rw [g3, if_neg (by omega), if_neg (by omega), if_neg (by omega), if_neg (by omega), if_neg (by omega), if_neg (by omega), if_neg (by omega), if_neg (by omega), if_neg (by omega), if_neg (by omega), if_neg (by omega), if_neg (by omega), if_neg (by omega), g2 _ _ (by omega)]; exact z1, by rw [g3, if_neg (by omega), if_neg (by omega), if_neg (by omega), if_neg (by omega), if_neg (by omega), if_neg (by omega), if_neg (by omega), if_neg (by omega), if_neg (by omega), if_neg (by omega), if_neg (by omega), if_neg (by omega), if_neg (by omega), g2 _ _ (by omega)]; exact z2, by rw [g3, if_neg (by omega), if_neg (by omega), if_neg (by omega), if_neg (by omega), if_neg (by omega), if_neg (by omega), if_neg (by omega), if_neg (by omega), if_neg (by omega), if_neg (by omega), if_neg (by omega), if_neg (by omega), if_neg (by omega), g2 _ _ (by omega)]; exact z3⟩
  · obtain ⟨p1, p2, p3, p4, p5, p6⟩ := cp
    refine ⟨by rw [ghi 15 0 (by omega) (by omega)]; exact p1, fun q hq => by rw [ghi 16 q (by omega) (by omega)]; exact p2 q hq, fun q hq => by rw [ghi 17 q (by omega) (by omega)]; exact p3 q hq, fun q hq => ?_, fun b hb => ?_, fun b k hb hk => ?_⟩
    · rw [ghi 18 q (by omega) (by omega), ghi 20 q (by omega) (by omega), ghi 21 q (by omega) (by omega)]
      have hls : lsM (aBond A p f c y t) (aLl (aBond A p f c y t) q) = lsM A (aLl A q) := bd_lsM p f c y t (hlow q)
      rw [hls]
      exact ⟨(p4 q hq).1, (p4 q hq).2.1, (p4 q hq).2.2.1, fun k hk => by rw [ghi 19 _ (by omega) (by omega)]; exact (p4 q hq).2.2.2 k hk⟩
    · rw [ghi 22 b (by omega) (by omega), p5 b hb]
      show _ = if b < aNb A + 1 then oI (sPlc (aBond A p f c y t) b) else -1
      by_cases e : b < aNb A + 1
      · rw [if_pos e, bd_plc w p f c y t e]
        by_cases e2 : b < aNb A
        · rw [if_pos e2, if_pos e2]
        · rw [if_neg e2, if_neg e2]; rfl
      · rw [if_neg e, if_neg (by omega)]
    · have hb' : b < aNb A + 1 := hb
      rw [bd_plc w p f c y t hb'] at hk
      by_cases e2 : b < aNb A
      · rw [if_pos e2] at hk
        rw [ghi 23 b (by omega) (by omega), p6 b k e2 hk]
        have hpe : aPe (aBond A p f c y t) b = aPe A b := updN_ne _ _ (by omega)
        have hls : lsM (aBond A p f c y t) ((aLl (aBond A p f c y t) (aPe (aBond A p f c y t) b)).take k) = lsM A ((aLl A (aPe A b)).take k) := by
          rw [hpe]
          exact bd_lsM p f c y t fun z hz => hlow _ z (List.mem_of_mem_take hz)
        rw [hls]
      · rw [if_neg e2] at hk; cases hk
  · obtain ⟨q1, q2, q3⟩ := cc
    refine ⟨by rw [ghi 24 0 (by omega) (by omega)]; exact q1, fun e he => by rw [ghi 25 e (by omega) (by omega), ghi 26 e (by omega) (by omega)]; exact q2 e he, fun e he => ?_⟩
    rw [ghi 27 e (by omega) (by omega)]
    refine ⟨(q3 e he).1, fun k hk => ?_⟩
    rw [ghi 28 _ (by omega) (by omega), ghi 29 _ (by omega) (by omega)]
    have hpr := prM_lt w ((w.2.2.2.2.1.2.2.2 e).2.2.2 _ (getD_mem' (d := (none, none)) hk))
    have hsl : slM (aBond A p f c y t) (prM ((aPl (aBond A p f c y t) e).getD k (none, none))) = slM A (prM ((aPl A e).getD k (none, none))) := bd_slM p f c y t hpr
    rw [hsl]
    exact (q3 e he).2 k hk
  · intro k hk
    have d1 : DK A ca bl h1 := DK_fr' d f0 fun a j q => q
    by_cases e : k = f
    · subst e
      simp only [if_true]
      have dd := CD0_fr hk (d1 k hk).1 f2 fun a j q => Wdk_cC hk q
      have dd3 : CD0 A k (ca k) h3 := by
        obtain ⟨x0, x1, x2, x3⟩ := dd
        refine ⟨by rw [Fr_I f3 (by unfold dA; omega)]; exact x0, by rw [f3.1.2.1]; exact x1, x2, CHc_eq x3 fun i j hi => Fr_I f3 ?_⟩
        unfold isCA at x2
        omega
      exact ⟨CD0_ag rfl dd3, Fr_CR t2 f3' fun a j q => okM_Wdk hk q⟩
    · simp only [if_neg e]
      have hag : TkAg A (aBond A p f c y t) k := ag_bond p f c y t e
      have dd := CD0_fr hk (d1 k hk).1 f2 fun a j q => Wdk_cC (k := f) (by omega) q
      have cc2 := Fr_CR (d1 k hk).2 f2 fun a j q => Wdk_ne (by omega) hk (fun z => e z.symm) q
      have dd3 : CD0 A k (ca k) h3 := by
        obtain ⟨x0, x1, x2, x3⟩ := dd
        refine ⟨by rw [Fr_I f3 (by unfold dA; omega)]; exact x0, by rw [f3.1.2.1]; exact x1, x2, CHc_eq x3 fun i j hi => Fr_I f3 ?_⟩
        unfold isCA at x2
        omega
      exact ⟨CD0_ag rfl dd3, CR_ag w wB hag (Fr_CR cc2 f3' fun a j q => okM_Wdk hk q)⟩
  · rw [Fr_I f3 (by omega), g2 _ _ (by omega)]
    exact c11
  · rw [Fr_I f3 (by omega), Fr_I f2 (fun q => by have := Wdk_lt (k := f) (by omega) q; omega), g1, if_pos ⟨rfl, rfl⟩]
    exact nI_0
