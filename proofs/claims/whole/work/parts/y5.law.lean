/-! row, and all calls one behind another -/
theorem row_cnd {A : AS} {tx : List Nat} {rw : List Int32} {h : jHp} (r : RC A tx rw h) (x : Int32) : cnd_S_row ([.ref 1, .int x], h) = some (!(j_in x rw.length), ([.ref 1, .int x], h)) := by
  have hs := r.1.1.1
  obtain ⟨c40, c1, -⟩ := r.2.2.2.2.1
  rcases n_of x with ⟨k, hk, rfl⟩ | hx
  · rw [n_in hk]
    have h0 := nI_pos hk
    by_cases q : k < rw.length
    · have q2 : ¬ nI rw.length ≤ nI k := Int32.not_le.mpr (nI_lt q (by omega))
      simp (disch := first | assumption | omega) [cnd_S_row, j_meth, j_out, j_rok, j_pad, lg_sl, s_seq_w, isN_inl, isN_inr, s_if, jb, x_c, x_iloc, x_aloc, x_lloc, x_bin, x_un, o_add, o_sub, o_mul, o_and, o_or, o_xor, o_shl, o_shr, o_ushr, o_max, o_min, o_i2b, o_i2c, o_i2l, o_l2i, x_fld, j_fget, x_idx, j_aget, x_len, j_alen, x_ofb, x_ite, xs_nil, xs_cons, x_callv, x_calls, s_callv, s_calls, j_recv, j_ret, j_retv, b_cmp, b_and, b_or, b_not, b_ofi, b_ite, b_true, s_skip, s_set, j_ty, j_lset, j_kill, s_inc, s_fput, j_fput, s_fop, s_aput, j_aput, j_nar, s_aop, s_ret, s_retv, s_go, s_pop, x_linc, x_finc, Value.category, if_icmp.holds, List.flatMap_cons, List.flatMap_nil, List.length_cons, List.length_append, List.length_nil, List.set_cons_succ, List.set_cons_zero, List.getElem?_cons_succ, List.getElem?_cons_zero, List.replicate, ite_and', ite_or', ite_int', nI_leI, nI_ltI, nI_eq, nI_add, nI_1, pk_mul, nI_clamp, n_in', nI_pos', nI_pos, n_m1e, n_01, n_10, sT_1, sR_1_0, sR_1_1, sR_1_2, sR_1_3, sR_1_4, sR_1_5, sR_1_6, sR_1_7, sR_1_8, sR_1_9, sT_2, sT_3, sT_4, sT_5, sT_6, sT_7, sT_8, sT_9, sT_10, sT_11, sT_12, sT_13, sT_14, sR_2_1, sR_2_2, sR_2_3, sR_2_4, sR_2_5, sR_2_6, sR_2_7, sR_2_8, sR_2_9, sR_2_10, sR_2_11, sR_2_12, sT_15, sT_16, sT_17, sT_18, sT_19, sT_20, sT_21, sT_22, sT_23, sR_15_1, sR_15_2, sR_15_3, sR_15_4, sR_15_5, sR_15_6, sR_15_7, sR_15_8, sT_24, sT_25, sT_26, sT_27, sT_28, sT_29, sR_24_1, sR_24_2, sR_24_3, sR_24_4, sR_24_5, sT_71, sT_72, sR_71_0, sR_71_1, sR_71_2, sR_71_3, sR_71_4, sT_73, sT_74, sT_75, sR_73_0, sR_73_1, sR_73_2, sR_73_3, sR_73_4, sR_73_5, sT_84, sT_85, sT_86, sT_87, sR_84_0, sR_84_1, sR_84_2, sR_84_3, sR_84_4, sR_84_5, sT_88, sT_89, sR_88_0, sT_90, sT_91, sR_90_0, c1, h0, q, q2]
    · have q2 : nI rw.length ≤ nI k := Int32.not_lt.mp fun z => q (by
        have := nI_ltI (a := k) (b := rw.length) (by omega) (by omega)
        exact this.mp z)
      simp (disch := first | assumption | omega) [cnd_S_row, j_meth, j_out, j_rok, j_pad, lg_sl, s_seq_w, isN_inl, isN_inr, s_if, jb, x_c, x_iloc, x_aloc, x_lloc, x_bin, x_un, o_add, o_sub, o_mul, o_and, o_or, o_xor, o_shl, o_shr, o_ushr, o_max, o_min, o_i2b, o_i2c, o_i2l, o_l2i, x_fld, j_fget, x_idx, j_aget, x_len, j_alen, x_ofb, x_ite, xs_nil, xs_cons, x_callv, x_calls, s_callv, s_calls, j_recv, j_ret, j_retv, b_cmp, b_and, b_or, b_not, b_ofi, b_ite, b_true, s_skip, s_set, j_ty, j_lset, j_kill, s_inc, s_fput, j_fput, s_fop, s_aput, j_aput, j_nar, s_aop, s_ret, s_retv, s_go, s_pop, x_linc, x_finc, Value.category, if_icmp.holds, List.flatMap_cons, List.flatMap_nil, List.length_cons, List.length_append, List.length_nil, List.set_cons_succ, List.set_cons_zero, List.getElem?_cons_succ, List.getElem?_cons_zero, List.replicate, ite_and', ite_or', ite_int', nI_leI, nI_ltI, nI_eq, nI_add, nI_1, pk_mul, nI_clamp, n_in', nI_pos', nI_pos, n_m1e, n_01, n_10, sT_1, sR_1_0, sR_1_1, sR_1_2, sR_1_3, sR_1_4, sR_1_5, sR_1_6, sR_1_7, sR_1_8, sR_1_9, sT_2, sT_3, sT_4, sT_5, sT_6, sT_7, sT_8, sT_9, sT_10, sT_11, sT_12, sT_13, sT_14, sR_2_1, sR_2_2, sR_2_3, sR_2_4, sR_2_5, sR_2_6, sR_2_7, sR_2_8, sR_2_9, sR_2_10, sR_2_11, sR_2_12, sT_15, sT_16, sT_17, sT_18, sT_19, sT_20, sT_21, sT_22, sT_23, sR_15_1, sR_15_2, sR_15_3, sR_15_4, sR_15_5, sR_15_6, sR_15_7, sR_15_8, sT_24, sT_25, sT_26, sT_27, sT_28, sT_29, sR_24_1, sR_24_2, sR_24_3, sR_24_4, sR_24_5, sT_71, sT_72, sR_71_0, sR_71_1, sR_71_2, sR_71_3, sR_71_4, sT_73, sT_74, sT_75, sR_73_0, sR_73_1, sR_73_2, sR_73_3, sR_73_4, sR_73_5, sT_84, sT_85, sT_86, sT_87, sR_84_0, sR_84_1, sR_84_2, sR_84_3, sR_84_4, sR_84_5, sT_88, sT_89, sR_88_0, sT_90, sT_91, sR_90_0, c1, h0, q, q2]
  · have h0 : ¬ 0 ≤ x := Int32.not_le.mpr hx
    have hj : j_in x rw.length = false := by simp [j_in, h0]
    rw [hj]
    simp (disch := first | assumption | omega) [cnd_S_row, j_meth, j_out, j_rok, j_pad, lg_sl, s_seq_w, isN_inl, isN_inr, s_if, jb, x_c, x_iloc, x_aloc, x_lloc, x_bin, x_un, o_add, o_sub, o_mul, o_and, o_or, o_xor, o_shl, o_shr, o_ushr, o_max, o_min, o_i2b, o_i2c, o_i2l, o_l2i, x_fld, j_fget, x_idx, j_aget, x_len, j_alen, x_ofb, x_ite, xs_nil, xs_cons, x_callv, x_calls, s_callv, s_calls, j_recv, j_ret, j_retv, b_cmp, b_and, b_or, b_not, b_ofi, b_ite, b_true, s_skip, s_set, j_ty, j_lset, j_kill, s_inc, s_fput, j_fput, s_fop, s_aput, j_aput, j_nar, s_aop, s_ret, s_retv, s_go, s_pop, x_linc, x_finc, Value.category, if_icmp.holds, List.flatMap_cons, List.flatMap_nil, List.length_cons, List.length_append, List.length_nil, List.set_cons_succ, List.set_cons_zero, List.getElem?_cons_succ, List.getElem?_cons_zero, List.replicate, ite_and', ite_or', ite_int', nI_leI, nI_ltI, nI_eq, nI_add, nI_1, pk_mul, nI_clamp, n_in', nI_pos', nI_pos, n_m1e, n_01, n_10, sT_1, sR_1_0, sR_1_1, sR_1_2, sR_1_3, sR_1_4, sR_1_5, sR_1_6, sR_1_7, sR_1_8, sR_1_9, sT_2, sT_3, sT_4, sT_5, sT_6, sT_7, sT_8, sT_9, sT_10, sT_11, sT_12, sT_13, sT_14, sR_2_1, sR_2_2, sR_2_3, sR_2_4, sR_2_5, sR_2_6, sR_2_7, sR_2_8, sR_2_9, sR_2_10, sR_2_11, sR_2_12, sT_15, sT_16, sT_17, sT_18, sT_19, sT_20, sT_21, sT_22, sT_23, sR_15_1, sR_15_2, sR_15_3, sR_15_4, sR_15_5, sR_15_6, sR_15_7, sR_15_8, sT_24, sT_25, sT_26, sT_27, sT_28, sT_29, sR_24_1, sR_24_2, sR_24_3, sR_24_4, sR_24_5, sT_71, sT_72, sR_71_0, sR_71_1, sR_71_2, sR_71_3, sR_71_4, sT_73, sT_74, sT_75, sR_73_0, sR_73_1, sR_73_2, sR_73_3, sR_73_4, sR_73_5, sT_84, sT_85, sT_86, sT_87, sR_84_0, sR_84_1, sR_84_2, sR_84_3, sR_84_4, sR_84_5, sT_88, sT_89, sR_88_0, sT_90, sT_91, sR_90_0, c1, h0, hx]
theorem row_ok {A : AS} {tx : List Nat} {rw : List Int32} {h : jHp} (r : RC A tx rw h) {x : Int32} (hx : j_in x rw.length = true) : f_S_row [.ref 1, .int x] h = some (some (.int (rw.getD x.toNatClampNeg 0)), h) := by
  have hs := r.1.1.1
  obtain ⟨c40, c1, c2⟩ := r.2.2.2.2.1
  have e := row_cnd r x
  rw [hx] at e
  obtain ⟨k, hk, rfl⟩ := j_in_ex hx (by omega)
  rw [nI_clamp (by omega)]
  have e2 := c2 k hk
  have h4 : j_in (nI k) 40 = true := n_in' (by omega) (by omega)
  have h5 := nI_clamp (n := k) (by omega)
  have e' : (b_or (b_cmp .lt (x_iloc 1) (x_c (.int 0))) (b_cmp .ge (x_iloc 1) (x_fld 8 0 1 (x_fld 0 1 9 (x_aloc 0))))) ([.ref 1, .int (nI k)], h) = some (false, ([.ref 1, .int (nI k)], h)) := e
  have eb : body_S_row ([.ref 1, .int (nI k)], h) = some (.inr (some (.int (rw.getD k 0))), ([.ref 1, .int (nI k)], h)) := by
    simp only [body_S_row, s_seq, s_if, e', jb, Bool.not_true, s_skip, if_false, Bool.false_eq_true]
    simp (disch := first | assumption | omega) [j_meth, j_out, j_rok, j_pad, lg_sl, s_seq_w, isN_inl, isN_inr, s_if, jb, x_c, x_iloc, x_aloc, x_lloc, x_bin, x_un, o_add, o_sub, o_mul, o_and, o_or, o_xor, o_shl, o_shr, o_ushr, o_max, o_min, o_i2b, o_i2c, o_i2l, o_l2i, x_fld, j_fget, x_idx, j_aget, x_len, j_alen, x_ofb, x_ite, xs_nil, xs_cons, x_callv, x_calls, s_callv, s_calls, j_recv, j_ret, j_retv, b_cmp, b_and, b_or, b_not, b_ofi, b_ite, b_true, s_skip, s_set, j_ty, j_lset, j_kill, s_inc, s_fput, j_fput, s_fop, s_aput, j_aput, j_nar, s_aop, s_ret, s_retv, s_go, s_pop, x_linc, x_finc, Value.category, if_icmp.holds, List.flatMap_cons, List.flatMap_nil, List.length_cons, List.length_append, List.length_nil, List.set_cons_succ, List.set_cons_zero, List.getElem?_cons_succ, List.getElem?_cons_zero, List.replicate, ite_and', ite_or', ite_int', nI_leI, nI_ltI, nI_eq, nI_add, nI_1, pk_mul, nI_clamp, n_in', nI_pos', nI_pos, n_m1e, n_01, n_10, sT_1, sR_1_0, sR_1_1, sR_1_2, sR_1_3, sR_1_4, sR_1_5, sR_1_6, sR_1_7, sR_1_8, sR_1_9, sT_2, sT_3, sT_4, sT_5, sT_6, sT_7, sT_8, sT_9, sT_10, sT_11, sT_12, sT_13, sT_14, sR_2_1, sR_2_2, sR_2_3, sR_2_4, sR_2_5, sR_2_6, sR_2_7, sR_2_8, sR_2_9, sR_2_10, sR_2_11, sR_2_12, sT_15, sT_16, sT_17, sT_18, sT_19, sT_20, sT_21, sT_22, sT_23, sR_15_1, sR_15_2, sR_15_3, sR_15_4, sR_15_5, sR_15_6, sR_15_7, sR_15_8, sT_24, sT_25, sT_26, sT_27, sT_28, sT_29, sR_24_1, sR_24_2, sR_24_3, sR_24_4, sR_24_5, sT_71, sT_72, sR_71_0, sR_71_1, sR_71_2, sR_71_3, sR_71_4, sT_73, sT_74, sT_75, sR_73_0, sR_73_1, sR_73_2, sR_73_3, sR_73_4, sR_73_5, sT_84, sT_85, sT_86, sT_87, sR_84_0, sR_84_1, sR_84_2, sR_84_3, sR_84_4, sR_84_5, sT_88, sT_89, sR_88_0, sT_90, sT_91, sR_90_0, e2, h4, h5]
  simp [f_S_row, j_meth, j_pad, lg_sl, Value.category, eb, j_out, j_rok]
theorem L_row_t {A : AS} {tx : List Nat} {rw : List Int32} {h : jHp} (r : RC A tx rw h) {x : Int32} (hx : j_in x rw.length = false) : f_L_row [.ref 1, .int x, .ref 141] h = some (some (.int 1), hNew h 0 6) := by
  have t1 : (hT h 1).1 = 10 := by rw [sT_1 r.1.1.1]
  have e := row_cnd r x
  rw [hx] at e
  simp only [f_L_row, t1, if_true, e, Bool.not_false]
theorem L_row_ok {A : AS} {tx : List Nat} {rw : List Int32} {h : jHp} (r : RC A tx rw h) {x : Int32} (hx : j_in x rw.length = true) : f_L_row [.ref 1, .int x, .ref 141] h = some (some (.int 0), hSetJ h 141 0 (rw.getD x.toNatClampNeg 0).toInt64) := by
  have t1 : (hT h 1).1 = 10 := by rw [sT_1 r.1.1.1]
  have t2 : hT h 141 = (5, 1) := sT_141 r.1.1.1
  have e := row_cnd r x
  rw [hx] at e
  have e2 := row_ok r hx
  have e3 : j_in (nI 0) 1 = true := by decide
  have e4 : (nI 0).toNatClampNeg = 0 := by decide
  simp only [f_L_row, t1, if_true, e, Bool.not_true, e2, j_aput, t2, e3, e4, and_self]
theorem thrown_at {h : jHp} (hs : Shape h) : f_M_thrown [.ref 98] h = some (some (.int (hI h 98 33)), h) := by
  simp (disch := first | assumption | omega) [f_M_thrown, body_M_thrown, j_meth, j_out, j_rok, j_pad, lg_sl, s_seq_w, isN_inl, isN_inr, s_if, jb, x_c, x_iloc, x_aloc, x_lloc, x_bin, x_un, o_add, o_sub, o_mul, o_and, o_or, o_xor, o_shl, o_shr, o_ushr, o_max, o_min, o_i2b, o_i2c, o_i2l, o_l2i, x_fld, j_fget, x_idx, j_aget, x_len, j_alen, x_ofb, x_ite, xs_nil, xs_cons, x_callv, x_calls, s_callv, s_calls, j_recv, j_ret, j_retv, b_cmp, b_and, b_or, b_not, b_ofi, b_ite, b_true, s_skip, s_set, j_ty, j_lset, j_kill, s_inc, s_fput, j_fput, s_fop, s_aput, j_aput, j_nar, s_aop, s_ret, s_retv, s_go, s_pop, x_linc, x_finc, Value.category, if_icmp.holds, List.flatMap_cons, List.flatMap_nil, List.length_cons, List.length_append, List.length_nil, List.set_cons_succ, List.set_cons_zero, List.getElem?_cons_succ, List.getElem?_cons_zero, List.replicate, ite_and', ite_or', ite_int', nI_leI, nI_ltI, nI_eq, nI_add, nI_1, pk_mul, nI_clamp, n_in', nI_pos', nI_pos, n_m1e, n_01, n_10, sT_98, sT_99, sT_100, sT_101, sT_102, sT_103, sT_104, sT_105, sT_106, sT_107, sT_108, sT_109, sT_110, sT_111, sT_112, sT_113, sT_114, sT_115, sT_116, sT_117, sT_118, sT_119, sT_120, sT_121, sT_122, sT_123, sT_124, sT_125, sT_126, sT_127, sT_128, sT_129, sT_130, sT_131, sT_132, sT_133, sT_134, sT_135, sT_136, sT_137, sT_138, sT_139, sT_140, sR_98_1, sR_98_4, sR_98_5, sR_98_6, sR_98_7, sR_98_8, sR_98_9, sR_98_10, sR_98_12, sR_98_13, sR_98_14, sR_98_15, sR_98_16, sR_98_17, sR_98_18, sR_98_19, sR_98_20, sR_98_21, sR_98_22, sR_98_23, sR_98_24, sR_98_25, sR_98_26, sR_98_27, sR_98_28, sR_98_29, sR_98_31, sR_98_34, sR_98_35, sR_98_36, sR_98_42, sR_98_44, sR_98_45, sR_98_47, sR_98_49, sR_98_51, sR_98_56, sR_98_58, sR_98_62, sR_98_65, sR_98_66, sR_98_69]
theorem set5 {b i : Nat} {v5 v6 : Value} {h h1 : jHp} {e : jE} {k : Int32} (he : e (lwL b i v5 v6, h) = some (.int k, (lwL b i v5 v6, h1))) : s_set 0 5 e (lwL b i v5 v6, h) = some (.inl 0, (lwL b i (.int k) v6, h1)) := by
  simp [s_set, he, jb, j_ty, j_lset, j_kill, Value.category]
theorem set6 {b i : Nat} {k5 : Int32} {v6 : Value} {h h1 : jHp} {e : jE} {k : Int32} (he : e (lwL b i (.int k5) v6, h) = some (.int k, (lwL b i (.int k5) v6, h1))) : s_set 0 6 e (lwL b i (.int k5) v6, h) = some (.inl 0, (lwL b i (.int k5) (.int k), h1)) := by
  simp [s_set, he, jb, j_ty, j_lset, j_kill, Value.category]
theorem cs_29 {b N i : Nat} {xs : Nat → Int32} (hN0 : N < 2 ^ 30) (hi : i + 6 ≤ N) : CAS b N i xs (cas_29 b N xs) := by
  intro v5 v6 h ⟨A, tx, rw, r, m⟩
  have hs := r.1.1.1
  have h142 := hs.2.2
  have a1 : ∀ w5 w6 g, xs_cons (x_aloc 1) (xs_cons (x_sc b N xs (x_bin o_add (x_iloc 4) (x_c (.int (nI 1))))) (xs_cons (x_aloc 3) xs_nil)) (lwL b i w5 w6, g) = some ([.ref 1, .int (xs (i + 1)), .ref 141], (lwL b i w5 w6, g)) := fun w5 w6 g => ev_cons (ev_al rfl) (ev_cons (ev_sc hN0 (by omega)) (ev_cons (ev_al rfl) ev_nil))
  have a2 : ∀ w5 w6 g, xs_cons (x_aloc 2) (xs_cons (x_sc b N xs (x_bin o_add (x_iloc 4) (x_c (.int (nI 1))))) xs_nil) (lwL b i w5 w6, g) = some ([.ref 98, .int (xs (i + 1))], (lwL b i w5 w6, g)) := fun w5 w6 g => ev_cons (ev_al rfl) (ev_cons (ev_sc hN0 (by omega)) ev_nil)
  have a3 : ∀ w5 w6 g, xs_cons (x_aloc 2) xs_nil (lwL b i w5 w6, g) = some ([.ref 98], (lwL b i w5 w6, g)) := fun w5 w6 g => ev_cons (ev_al rfl) ev_nil
  generalize hx0 : xs (i + 1) = x at a1 a2
  by_cases hx : j_in x rw.length = true
  · have e1 := L_row_ok r hx
    obtain ⟨r1, m1, p1⟩ := both_x (h' := hSetJ h 141 0 (rw.getD x.toNatClampNeg 0).toInt64) r m (fun _ _ => rfl) (Nat.le_refl _) (fun _ _ _ => rfl) (fun a k _ n => j_up_ne n) (fun _ _ _ => rfl)
    have g1 : hJ (hSetJ h 141 0 (rw.getD x.toNatClampNeg 0).toInt64) 141 0 = (rw.getD x.toNatClampNeg 0).toInt64 := by simp [hSetJ, hJ, j_up]
    have n1 : hN (hSetJ h 141 0 (rw.getD x.toNatClampNeg 0).toInt64) = hN h := rfl
    have s1 : hS (hSetJ h 141 0 (rw.getD x.toNatClampNeg 0).toInt64) = hS h := rfl
    generalize hSetJ h 141 0 (rw.getD x.toNatClampNeg 0).toInt64 = h1 at *
    obtain ⟨h2, e2, m2, f2, g2⟩ := o_M_row m1 x
    have hv : vRow rw x = (rw.getD x.toNatClampNeg 0, nI 0) := by unfold vRow; rw [if_pos hx]
    rw [hv] at e2 g2
    simp only at e2 g2
    have hs2 := m2.1.1
    have e3 := thrown_at hs2
    have t1 : (hT h1 98).1 = 22 := by rw [sT_98 m1.1.1]
    have t2 : (hT h2 98).1 = 22 := by rw [sT_98 hs2]
    have t3 := sT_141 hs2
    have g3 : hJ h2 141 0 = (rw.getD x.toNatClampNeg 0).toInt64 := by rw [f2.1.2.2.1]; exact g1
    have z3 : j_in (nI 0) 1 = true := by decide
    have z4 : (nI 0).toNatClampNeg = 0 := by decide
    have z5 := (lg_cmp_eq (rw.getD x.toNatClampNeg 0).toInt64 (rw.getD x.toNatClampNeg 0).toInt64).mpr rfl
    refine ⟨.int 0, .int (rw.getD x.toNatClampNeg 0), h2, ?_, ⟨A, tx, rw, RC_WM r1 f2, m2⟩, ?_⟩
    · refine fb_step (set5 (h1 := h1) (k := 0) ?_) (fb_step (set6 (h1 := h2) (k := rw.getD x.toNatClampNeg 0) ?_) (fb_step (st1 := (lwL b i (.int 0) (.int (rw.getD x.toNatClampNeg 0)), h2)) ?_ ?_))
      · simp only [x_calls, a1, jb, e1, j_ret]
      · simp [x_callv, a2, jb, j_recv, t1, e2, j_ret]
      · rw [← nI_0]
        simp [s_if, b_cmp, x_callv, a3, jb, j_recv, t2, e3, j_ret, x_iloc, if_icmp.holds, g2, s_skip]
      · simp [s_if, b_and, b_cmp, b_lcmp, x_iloc, x_c, jb, if_icmp.holds, x_idx, x_aloc, j_aget, t3, z3, z4, g3, x_un, o_i2l, ifCond.holds, z5, s_skip]
        exact fun q => absurd ((lg_cmp_eq _ _).mpr rfl) q
    · obtain ⟨⟨b1, b2, b3, b4, b5⟩, -⟩ := f2
      have hp : pot h2 = pot h1 := by unfold pot; rw [b1, b2]
      unfold ROOM
      rw [hp, p1, b4, b5, n1, s1]
      omega
  · have hx' : j_in x rw.length = false := by simpa using hx
    have e1 := L_row_t r hx'
    obtain ⟨r1, m1, p1⟩ := both_x (h' := hNew h 0 6) r m (fun a ha => by simp [hNew, hT, Nat.ne_of_lt ha]) (Nat.le_succ _) (fun a k ha => by simp [hNew, hI, Nat.ne_of_lt ha]) (fun a k ha _ => by simp [hNew, hJ, Nat.ne_of_lt ha]) (fun a k ha => by simp [hNew, hR, Nat.ne_of_lt ha])
    have n1 : hN (hNew h 0 6) = hN h + 1 := rfl
    have s1 : hS (hNew h 0 6) = hS h + 6 := rfl
    generalize hNew h 0 6 = h1 at *
    obtain ⟨h2, e2, m2, f2, g2⟩ := o_M_row m1 x
    have hv : vRow rw x = (nI 0, nI 1) := by unfold vRow; rw [if_neg hx]
    rw [hv] at e2 g2
    simp only at e2 g2
    have hs2 := m2.1.1
    have e3 := thrown_at hs2
    have t1 : (hT h1 98).1 = 22 := by rw [sT_98 m1.1.1]
    have t2 : (hT h2 98).1 = 22 := by rw [sT_98 hs2]
    refine ⟨.int 1, .int (nI 0), h2, ?_, ⟨A, tx, rw, RC_WM r1 f2, m2⟩, ?_⟩
    · refine fb_step (set5 (h1 := h1) (k := 1) ?_) (fb_step (set6 (h1 := h2) (k := nI 0) ?_) (fb_step (st1 := (lwL b i (.int 1) (.int (nI 0)), h2)) ?_ ?_))
      · simp only [x_calls, a1, jb, e1, j_ret]
      · simp [x_callv, a2, jb, j_recv, t1, e2, j_ret]
      · rw [← n_11]
        simp [s_if, b_cmp, x_callv, a3, jb, j_recv, t2, e3, j_ret, x_iloc, if_icmp.holds, g2, s_skip]
      · have z : ((1 : Int32) = 0) = False := by decide
        simp [s_if, b_and, b_cmp, x_iloc, x_c, jb, if_icmp.holds, z, s_skip]
    · obtain ⟨⟨b1, b2, b3, b4, b5⟩, -⟩ := f2
      have hp : pot h2 = pot h1 := by unfold pot; rw [b1, b2]
      unfold ROOM
      rw [hp, p1, b4, b5, n1, s1]
      omega
theorem cs_skip {b N i : Nat} {xs : Nat → Int32} : CAS b N i xs s_skip := fun v5 v6 h q => ⟨v5, v6, h, rfl, q, by omega, by omega, Nat.le_refl _, Nat.le_refl _⟩
theorem cs_all {b N i : Nat} {xs : Nat → Int32} (hN0 : N < 2 ^ 30) (hi : i + 6 ≤ N) : ∀ s ∈ [(cas_0 b N xs), (cas_1 b N xs), (cas_2 b N xs), (cas_3 b N xs), (cas_4 b N xs), (cas_5 b N xs), (cas_6 b N xs), (cas_7 b N xs), (cas_8 b N xs), (cas_9 b N xs), (cas_10 b N xs), (cas_11 b N xs), (cas_12 b N xs), (cas_13 b N xs), (cas_14 b N xs), (cas_15 b N xs), (cas_16 b N xs), (cas_17 b N xs), (cas_18 b N xs), (cas_19 b N xs), (cas_20 b N xs), (cas_21 b N xs), (cas_22 b N xs), (cas_23 b N xs), (cas_24 b N xs), (cas_25 b N xs), (cas_26 b N xs), (cas_27 b N xs), (cas_28 b N xs), (cas_29 b N xs)], CAS b N i xs s := List.forall_mem_cons.mpr ⟨cs_0 hN0 hi, List.forall_mem_cons.mpr ⟨cs_1 hN0 hi, List.forall_mem_cons.mpr ⟨cs_2 hN0 hi, List.forall_mem_cons.mpr ⟨cs_3 hN0 hi, List.forall_mem_cons.mpr ⟨cs_4 hN0 hi, List.forall_mem_cons.mpr ⟨cs_5 hN0 hi, List.forall_mem_cons.mpr ⟨cs_6 hN0 hi, List.forall_mem_cons.mpr ⟨cs_7 hN0 hi, List.forall_mem_cons.mpr ⟨cs_8 hN0 hi, List.forall_mem_cons.mpr ⟨cs_9 hN0 hi, List.forall_mem_cons.mpr ⟨cs_10 hN0 hi, List.forall_mem_cons.mpr ⟨cs_11 hN0 hi, List.forall_mem_cons.mpr ⟨cs_12 hN0 hi, List.forall_mem_cons.mpr ⟨cs_13 hN0 hi, List.forall_mem_cons.mpr ⟨cs_14 hN0 hi, List.forall_mem_cons.mpr ⟨cs_15 hN0 hi, List.forall_mem_cons.mpr ⟨cs_16 hN0 hi, List.forall_mem_cons.mpr ⟨cs_17 hN0 hi, List.forall_mem_cons.mpr ⟨cs_18 hN0 hi, List.forall_mem_cons.mpr ⟨cs_19 hN0 hi, List.forall_mem_cons.mpr ⟨cs_20 hN0 hi, List.forall_mem_cons.mpr ⟨cs_21 hN0 hi, List.forall_mem_cons.mpr ⟨cs_22 hN0 hi, List.forall_mem_cons.mpr ⟨cs_23 hN0 hi, List.forall_mem_cons.mpr ⟨cs_24 hN0 hi, List.forall_mem_cons.mpr ⟨cs_25 hN0 hi, List.forall_mem_cons.mpr ⟨cs_26 hN0 hi, List.forall_mem_cons.mpr ⟨cs_27 hN0 hi, List.forall_mem_cons.mpr ⟨cs_28 hN0 hi, List.forall_mem_cons.mpr ⟨cs_29 hN0 hi, fun _ h => absurd h List.not_mem_nil⟩⟩⟩⟩⟩⟩⟩⟩⟩⟩⟩⟩⟩⟩⟩⟩⟩⟩⟩⟩⟩⟩⟩⟩⟩⟩⟩⟩⟩⟩
theorem tsw_at {ss : List jSt} {d : jSt} {n : Nat} (hn : n < 2 ^ 31) : s_tsw 0 ss d (nI n) = (ss[n]?).getD d := by
  have e : (nI n).toInt = (n : Int) := Int32.toInt_ofNat_of_lt hn
  have e2 : ¬ ((n : Int) < 0) := by omega
  unfold s_tsw
  rw [e, if_neg e2]
  simp
theorem lb_CAS {b N i : Nat} {xs : Nat → Int32} (hN0 : N < 2 ^ 30) (hi : i + 6 ≤ N) : CAS b N i xs (lb_L_law_1 b N xs) := by
  intro v5 v6 h q
  obtain ⟨n, hn, en⟩ := and31 (xs i)
  have e0 := ev_sc0 (b := b) (xs := xs) (v5 := v5) (v6 := v6) (h := h) hN0 (show i < N by omega)
  have e1 : lb_L_law_1 b N xs (lwL b i v5 v6, h) = s_tsw 0 [(cas_0 b N xs), (cas_1 b N xs), (cas_2 b N xs), (cas_3 b N xs), (cas_4 b N xs), (cas_5 b N xs), (cas_6 b N xs), (cas_7 b N xs), (cas_8 b N xs), (cas_9 b N xs), (cas_10 b N xs), (cas_11 b N xs), (cas_12 b N xs), (cas_13 b N xs), (cas_14 b N xs), (cas_15 b N xs), (cas_16 b N xs), (cas_17 b N xs), (cas_18 b N xs), (cas_19 b N xs), (cas_20 b N xs), (cas_21 b N xs), (cas_22 b N xs), (cas_23 b N xs), (cas_24 b N xs), (cas_25 b N xs), (cas_26 b N xs), (cas_27 b N xs), (cas_28 b N xs), (cas_29 b N xs)] s_skip (nI n) (lwL b i v5 v6, h) := by
    simp only [lb_L_law_1, s_sw, x_bin, e0, jb, x_c, o_and, en]
  rw [e1, tsw_at (by omega)]
  have hall := cs_all (b := b) (xs := xs) hN0 hi
  generalize [(cas_0 b N xs), (cas_1 b N xs), (cas_2 b N xs), (cas_3 b N xs), (cas_4 b N xs), (cas_5 b N xs), (cas_6 b N xs), (cas_7 b N xs), (cas_8 b N xs), (cas_9 b N xs), (cas_10 b N xs), (cas_11 b N xs), (cas_12 b N xs), (cas_13 b N xs), (cas_14 b N xs), (cas_15 b N xs), (cas_16 b N xs), (cas_17 b N xs), (cas_18 b N xs), (cas_19 b N xs), (cas_20 b N xs), (cas_21 b N xs), (cas_22 b N xs), (cas_23 b N xs), (cas_24 b N xs), (cas_25 b N xs), (cas_26 b N xs), (cas_27 b N xs), (cas_28 b N xs), (cas_29 b N xs)] = ss at hall ⊢
  cases hss : ss[n]? with
  | none => exact cs_skip (b := b) (N := N) (i := i) (xs := xs) v5 v6 h q
  | some s => exact hall s (List.mem_of_getElem? hss) v5 v6 h q
theorem lc_at' {b N i : Nat} {xs : Nat → Int32} {v5 v6 : Value} {h : jHp} (hN0 : N < 2 ^ 30) (hi : i ≤ N) : lc_L_law_1 b N xs (lwL b i v5 v6, h) = some (decide (i + 6 ≤ N), (lwL b i v5 v6, h)) := by
  have e : lc_L_law_1 b N xs (lwL b i v5 v6, h) = some (decide (nI i ≤ nI N - nI 6), (lwL b i v5 v6, h)) := by
    simp only [lc_L_law_1, b_cmp, x_iloc, x_bin, x_scl, x_c, jb, o_sub, if_icmp.holds, List.getElem?_cons_succ, List.getElem?_cons_zero, if_true]
    rfl
  rw [e]
  have key : (nI i ≤ nI N - nI 6) ↔ i + 6 ≤ N := by
    have e1 : (nI i).toInt = (i : Int) := Int32.toInt_ofNat_of_lt (by omega)
    have e2 : (nI N).toInt = (N : Int) := Int32.toInt_ofNat_of_lt (by omega)
    have e3 : (nI 6).toInt = (6 : Int) := by decide
    rw [Int32.le_iff_toInt_le, Int32.toInt_sub, e1, e2, e3, Int.bmod_eq_of_le (by omega) (by omega)]
    omega
  simp [key]
theorem lu_at' {b N i : Nat} {xs : Nat → Int32} {v5 v6 : Value} {h : jHp} : lu_L_law_1 b N xs (lwL b i v5 v6, h) = some (.inl 0, (lwL b (i + 6) v5 v6, h)) := by
  simp [lu_L_law_1, s_inc, j_lset, j_kill, Value.category, nI_add]
theorem law_loop {b N : Nat} {xs : Nat → Int32} (hN0 : N ≤ 3072) (v5 v6 : Value) (h : jHp) (q : INV h) : ∃ r, s_loop 1 2 (lc_L_law_1 b N xs) (lb_L_law_1 b N xs) (lu_L_law_1 b N xs) (lwL b 0 v5 v6, h) = some r ∧ (∃ L h', r = (.inl 0, (L, h')) ∧ INV h' ∧ ROOM h h' 512) := by
  refine loop_wp (N / 6) (fun i st => ∃ w5 w6 h', st = (lwL b (6 * i) w5 w6, h') ∧ INV h' ∧ ROOM h h' i) (fun r => ∃ L h', r = (.inl 0, (L, h')) ∧ INV h' ∧ ROOM h h' 512) ?_ ?_ _ ⟨v5, v6, h, rfl, q, by omega, by omega, Nat.le_refl _, Nat.le_refl _⟩
  · intro i st hi ⟨w5, w6, h', e, q', r1, r2, r3, r4⟩
    subst e
    have hb : 6 * i + 6 ≤ N := by omega
    obtain ⟨u5, u6, h2, e2, q2, s1, s2, s3, s4⟩ := lb_CAS (b := b) (xs := xs) (i := 6 * i) (by omega) hb w5 w6 h' q'
    refine Or.inl ⟨(lwL b (6 * (i + 1)) u5 u6, h2), ?_, u5, u6, h2, rfl, q2, by omega, by omega, by omega, by omega⟩
    have e1 := lc_at' (b := b) (xs := xs) (v5 := w5) (v6 := w6) (h := h') (i := 6 * i) (N := N) (by omega) (by omega)
    have e3 := lu_at' (b := b) (N := N) (xs := xs) (v5 := u5) (v6 := u6) (h := h2) (i := 6 * i)
    simp only [lstp, e1, jb, hb, decide_true, if_true, e2, true_or, e3]
    rfl
  · intro st ⟨w5, w6, h', e, q', r1, r2, r3, r4⟩
    subst e
    have hb : ¬ 6 * (N / 6) + 6 ≤ N := by omega
    have e1 := lc_at' (b := b) (xs := xs) (v5 := w5) (v6 := w6) (h := h') (i := 6 * (N / 6)) (N := N) (by omega) (by omega)
    refine ⟨(.inl 0, (lwL b (6 * (N / 6)) w5 w6, h')), ?_, _, h', rfl, q', by omega, by omega, r3, r4⟩
    simp only [lstp, e1, jb, hb, decide_false, if_false, Bool.false_eq_true]
theorem st_set {t k : Nat} {e : jE} {L : List Value} {h h1 : jHp} {v : Value} (he : e (L, h) = some (v, (L, h1))) (ht : j_ty t v = true) : s_set t k e (L, h) = some (.inl 0, (j_lset L k v, h1)) := by
  simp [s_set, he, jb, ht]
theorem law_body {b N : Nat} {xs : Nat → Int32} (hN0 : N ≤ 3072) : ∃ L' h', body_L_law b N xs ([.retAddr b, .null, .null, .null, .null, .null, .null], hZ) = some (.inr (some (.int 1)), (L', h')) ∧ hN h' ≤ 601025 ∧ hS h' ≤ 7293033 := by
  obtain ⟨r, e, L, h', rfl, ⟨A, tx, rw, rc, rm⟩, p1, p2, -, -⟩ := law_loop (b := b) (xs := xs) hN0 .null .null hStart ⟨A0, [], [], RC_0, RMX_0⟩
  have pl := pot_le rc
  rw [pot_0, eN0] at p1
  rw [pot_0, eS0] at p2
  refine ⟨L, h', ?_, by omega, by omega⟩
  have x1 : x_new 0 (kc 0).2.2 f_S_init xs_nil ([.retAddr b, .null, .null, .null, .null, .null, .null], hZ) = some (.ref 1, ([.retAddr b, .null, .null, .null, .null, .null, .null], hMk sl_43)) := ev_new (cj := 0) (n := 12) (m := 1) (l := []) (l' := sl_43) (by decide) rfl ev_nil ct_19
  have x2 : x_new 12 (kc 12).2.2 f_M_init xs_nil ([.retAddr b, .ref 1, .null, .null, .null, .null, .null], hMk sl_43) = some (.ref 98, ([.retAddr b, .ref 1, .null, .null, .null, .null, .null], hMk sl_45)) := ev_new (cj := 12) (n := 71) (m := 98) (l := sl_43) (l' := sl_45) (by decide +kernel) rfl ev_nil ct_20
  have x3 : x_newa 5 (x_c (.int (nI 1))) ([.retAddr b, .ref 1, .ref 98, .null, .null, .null, .null], hMk sl_45) = some (.ref 141, ([.retAddr b, .ref 1, .ref 98, .null, .null, .null, .null], hStart)) := by
    have eN : hN (hMk sl_45) = 141 := (m_ok sk_45).1
    have z1 : 0 ≤ nI 1 ∧ (nI 1).toNatClampNeg ≤ 1000000 := by decide
    have z2 : (nI 1).toNatClampNeg = 1 := by decide
    simp only [x_newa, x_c, jb, z1, and_self, if_true, eN, z2]
    rfl
  refine fb_step (st1 := ([.retAddr b, .ref 1, .null, .null, .null, .null, .null], hMk sl_43)) (st_set x1 rfl) (fb_step (st1 := ([.retAddr b, .ref 1, .ref 98, .null, .null, .null, .null], hMk sl_45)) (st_set x2 rfl) (fb_step (st1 := ([.retAddr b, .ref 1, .ref 98, .ref 141, .null, .null, .null], hStart)) (st_set x3 rfl) (fb_step (st1 := (L, h')) (fb_step (st1 := (lwL b 0 .null .null, hStart)) (st_set (v := .int (nI 0)) rfl rfl) e) ?_)))
  simp only [s_ret, x_c, jb, n_11]
