/-! the Walk: keep -/
theorem hN_new (h : jHp) (k n : Nat) : hN (hNew h k n) = hN h + 1 := rfl
theorem hS_new (h : jHp) (k n : Nat) : hS (hNew h k n) = hS h + n := rfl
theorem hT_new (h : jHp) (k n a : Nat) : hT (hNew h k n) a = if a = hN h then (k, n) else hT h a := rfl
theorem hI_new (h : jHp) (k n a i : Nat) : hI (hNew h k n) a i = if a = hN h then 0 else hI h a i := rfl
theorem hJ_new (h : jHp) (k n a i : Nat) : hJ (hNew h k n) a i = if a = hN h then 0 else hJ h a i := rfl
theorem hR_new (h : jHp) (k n a i : Nat) : hR (hNew h k n) a i = if a = hN h then 0 else hR h a i := rfl
theorem hR_copy (h : jHp) (a sp b dp n : Nat) : hR (hCopy h a sp b dp n) = hR h := rfl
theorem hJ_copy (h : jHp) (a sp b dp n : Nat) : hJ (hCopy h a sp b dp n) = hJ h := rfl
theorem hN_copy (h : jHp) (a sp b dp n : Nat) : hN (hCopy h a sp b dp n) = hN h := rfl
theorem hS_copy (h : jHp) (a sp b dp n : Nat) : hS (hCopy h a sp b dp n) = hS h := rfl
theorem e_J_copyOf {h : jHp} {a m n : Nat} (ht : hT h a = (1, m)) (ha : a ≠ 0) (hl : a < hN h) (hmn : m < n) (hn : n ≤ 1000000) : f_J_copyOf [.ref a, .int (nI n)] h = some (some (.ref (hN h)), hCopy (hNew h 1 n) a 0 (hN h) 0 m) := by
  have hne : (nI n = nI m) = False := eq_false fun e => by
    have := (n_eq (by omega) (by omega)).mp e
    omega
  have h0 : (0 : Int32) ≤ nI n := nI_pos' (by omega)
  have h0m : (0 : Int32) ≤ nI m := nI_pos' (by omega)
  have cl : (nI n).toNatClampNeg = n := nI_clamp (by omega)
  have clm : (nI m).toNatClampNeg = m := nI_clamp (by omega)
  have t2 : hT (hNew h 1 n) a = (1, m) := by rw [hT_new, if_neg (by omega)]; exact ht
  have t3 : hT (hNew h 1 n) (hN h) = (1, n) := by rw [hT_new, if_pos rfl]
  have hmin : (if nI m ≤ nI n then nI m else nI n) = nI m := by
    rw [if_pos]
    rw [nI_leI (by omega) (by omega)]; omega
  have n0 : hN h ≠ 0 := by omega
  have hnm : (n < m) = False := eq_false (by omega)
  have hmn' : (m ≤ n) = True := eq_true (by omega)
  simp (disch := first | assumption | omega) [f_J_copyOf, body_J_copyOf, j_meth, j_out, j_rok, j_pad, lg_sl, s_seq_w, isN_inl, isN_inr, s_if, jb, x_c, x_iloc, x_aloc, x_lloc, x_bin, x_un, o_add, o_sub, o_mul, o_and, o_or, o_xor, o_shl, o_shr, o_ushr, o_max, o_min, o_i2b, o_i2c, o_i2l, o_l2i, x_fld, j_fget, x_idx, j_aget, x_len, j_alen, x_ofb, x_ite, xs_nil, xs_cons, x_callv, x_calls, s_callv, s_calls, j_recv, j_ret, j_retv, b_cmp, b_and, b_or, b_not, b_ofi, b_ite, b_true, s_skip, s_set, j_ty, j_lset, j_kill, s_inc, s_fput, j_fput, s_fop, s_aput, j_aput, j_nar, s_aop, s_ret, s_retv, s_go, s_pop, x_linc, x_finc, Value.category, if_icmp.holds, List.flatMap_cons, List.flatMap_nil, List.length_cons, List.length_append, List.length_nil, List.set_cons_succ, List.set_cons_zero, List.getElem?_cons_succ, List.getElem?_cons_zero, List.replicate, ite_and', ite_or', ite_int', nI_leI, nI_ltI, nI_eq, nI_add, nI_1, pk_mul, nI_clamp, n_in', nI_pos', nI_pos, n_m1e, n_01, n_10, sT_1, sR_1_0, sR_1_1, sR_1_2, sR_1_3, sR_1_4, sR_1_5, sR_1_6, sR_1_7, sR_1_8, sR_1_9, sT_2, sT_3, sT_4, sT_5, sT_6, sT_7, sT_8, sT_9, sT_10, sT_11, sT_12, sT_13, sT_14, sR_2_1, sR_2_2, sR_2_3, sR_2_4, sR_2_5, sR_2_6, sR_2_7, sR_2_8, sR_2_9, sR_2_10, sR_2_11, sR_2_12, sT_15, sT_16, sT_17, sT_18, sT_19, sT_20, sT_21, sT_22, sT_23, sR_15_1, sR_15_2, sR_15_3, sR_15_4, sR_15_5, sR_15_6, sR_15_7, sR_15_8, sT_24, sT_25, sT_26, sT_27, sT_28, sT_29, sR_24_1, sR_24_2, sR_24_3, sR_24_4, sR_24_5, sT_71, sT_72, sR_71_0, sR_71_1, sR_71_2, sR_71_3, sR_71_4, sT_73, sT_74, sT_75, sR_73_0, sR_73_1, sR_73_2, sR_73_3, sR_73_4, sR_73_5, sT_84, sT_85, sT_86, sT_87, sR_84_0, sR_84_1, sR_84_2, sR_84_3, sR_84_4, sR_84_5, sT_88, sT_89, sR_88_0, sT_90, sT_91, sR_90_0, ht, ha, hne, x_newa, cl, h0, hn, t2, t3, s_copy, j_copy, nI_0, h0m, clm, n0, hnm, hmn']
