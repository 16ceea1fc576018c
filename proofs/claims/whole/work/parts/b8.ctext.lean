/-! sign, end -/
theorem n_c16 : ∀ m, m < 256 → (nI m).toUInt32.toUInt16.toUInt32.toInt32 = nI m := by decide +kernel
theorem n_c16' : ∀ m, m < 256 → ((nI m).toUInt32 % 65536 % 65536).toInt32 = nI m := by decide +kernel
def W88 (a j : Nat) : Prop := (a = 88 ∧ j = 1) ∨ a = 89
theorem RC_tx {A : AS} {tx tx' : List Nat} {rw : List Int32} {h h' : jHp} (r : RC A tx rw h) (f : Fr W88 h h') (t : CTx tx' h') : RC A tx' rw h' ∧ FC h h' := by
  obtain ⟨r1, ⟨ca, bl, d, sp⟩, r3, r4, r5, r6⟩ := r
  have hW : ∀ a j, W88 a j → ¬ cC a j := fun a j q => by
    unfold W88 at q
    unfold cC isCA
    rintro (z | ⟨c, q1, q2, q3⟩ | z) <;> omega
  refine ⟨⟨MK_fr r1 f hW, ⟨ca, bl, DK_fr d f hW fun a j k hk q z => ?_, by rw [f.1.2.1]; exact sp.1, sp.2⟩, by rw [Fr_I f (by unfold W88; omega)]; exact r3, t, CRw_fr r5 f fun a j q => by unfold W88 at q; omega, CSt_fr r6 f fun a j q => by unfold W88 at q; unfold isG; omega⟩, FC_Fr f fun a j q => by unfold W88 at q; omega⟩
  have := Wdk_lt hk z
  unfold W88 at q
  omega
theorem T_app_step {h : jHp} (hs : Shape h) {m s : Nat} (v : Int32) (hm : m < 100) (hs' : s < 4) (c : hI h 88 1 = nI m) : lstp 1 2 lc_T_append_1 lb_T_append_1 lu_T_append_1 ([.ref 88, .int v, .int (nI (8 * s))], h) = some (.inl ([.ref 88, .int v, .int (nI (8 * s) + -8)], hSetI (hSetI h 89 m (nI (bytN v s))) 88 1 (nI (m + 1)))) := by
  have hs1 : Shape (hSetI h 89 m (nI (bytN v s))) := hs
  have c1 : hI (hSetI h 89 m (nI (bytN v s))) 88 1 = nI m := by rw [hI_setI, if_neg (by omega)]; exact c
  have hb : bytN v s < 256 := Nat.mod_lt _ (by decide)
  have hc := n_c16' _ hb
  have hsh := n_ushr (n32_lt v) (k := 8 * s) (by omega)
  rw [n32_nI] at hsh
  have hand : nI (n32 v / 2 ^ (8 * s)) &&& nI 255 = nI (bytN v s) := by
    rw [n_and]
    congr 1
    exact Nat.and_two_pow_sub_one_eq_mod _ 8
  have h0 : (0 : Int32) ≤ nI (8 * s) := nI_pos' (by omega)
  generalize n32 v / 2 ^ (8 * s) = q at *
  generalize bytN v s = bb at *
  generalize hh : hSetI h 89 m (nI bb) = h1 at *
  simp (disch := first | assumption | omega) [lstp, lc_T_append_1, lb_T_append_1, lu_T_append_1, j_meth, j_out, j_rok, j_pad, lg_sl, s_seq_w, isN_inl, isN_inr, s_if, jb, x_c, x_iloc, x_aloc, x_lloc, x_bin, x_un, o_add, o_sub, o_mul, o_and, o_or, o_xor, o_shl, o_shr, o_ushr, o_max, o_min, o_i2b, o_i2c, o_i2l, o_l2i, x_fld, j_fget, x_idx, j_aget, x_len, j_alen, x_ofb, x_ite, xs_nil, xs_cons, x_callv, x_calls, s_callv, s_calls, j_recv, j_ret, j_retv, b_cmp, b_and, b_or, b_not, b_ofi, b_ite, b_true, s_skip, s_set, j_ty, j_lset, j_kill, s_inc, s_fput, j_fput, s_fop, s_aput, j_aput, j_nar, s_aop, s_ret, s_retv, s_go, s_pop, x_linc, x_finc, Value.category, if_icmp.holds, List.flatMap_cons, List.flatMap_nil, List.length_cons, List.length_append, List.length_nil, List.set_cons_succ, List.set_cons_zero, List.getElem?_cons_succ, List.getElem?_cons_zero, List.replicate, ite_and', ite_or', ite_int', nI_leI, nI_ltI, nI_eq, nI_add, nI_1, pk_mul, nI_clamp, n_in', nI_pos', nI_pos, n_m1e, n_01, n_10, sT_1, sR_1_0, sR_1_1, sR_1_2, sR_1_3, sR_1_4, sR_1_5, sR_1_6, sR_1_7, sR_1_8, sR_1_9, sT_2, sT_3, sT_4, sT_5, sT_6, sT_7, sT_8, sT_9, sT_10, sT_11, sT_12, sT_13, sT_14, sR_2_1, sR_2_2, sR_2_3, sR_2_4, sR_2_5, sR_2_6, sR_2_7, sR_2_8, sR_2_9, sR_2_10, sR_2_11, sR_2_12, sT_15, sT_16, sT_17, sT_18, sT_19, sT_20, sT_21, sT_22, sT_23, sR_15_1, sR_15_2, sR_15_3, sR_15_4, sR_15_5, sR_15_6, sR_15_7, sR_15_8, sT_24, sT_25, sT_26, sT_27, sT_28, sT_29, sR_24_1, sR_24_2, sR_24_3, sR_24_4, sR_24_5, sT_71, sT_72, sR_71_0, sR_71_1, sR_71_2, sR_71_3, sR_71_4, sT_73, sT_74, sT_75, sR_73_0, sR_73_1, sR_73_2, sR_73_3, sR_73_4, sR_73_5, sT_84, sT_85, sT_86, sT_87, sR_84_0, sR_84_1, sR_84_2, sR_84_3, sR_84_4, sR_84_5, sT_88, sT_89, sR_88_0, sT_90, sT_91, sR_90_0, h0, c, hsh, hand, hc, hh, c1]
theorem CTx_app {tx : List Nat} {h : jHp} {b : Nat} (t : CTx tx h) (hl : tx.length < 100) (hb : b < 256) : CTx (tx ++ [b]) (hSetI (hSetI h 89 tx.length (nI b)) 88 1 (nI (tx.length + 1))) := by
  refine ⟨⟨by rw [List.length_append, List.length_singleton]; omega, fun y hy => ?_⟩, ?_, fun i hi => ?_⟩
  · rcases List.mem_append.mp hy with q | q
    · exact t.1.2 y q
    · simp only [List.mem_singleton] at q; subst q; exact hb
  · rw [hI_setI, if_pos ⟨rfl, rfl⟩, List.length_append, List.length_singleton]
  · rw [List.length_append, List.length_singleton] at hi
    rw [hI_setI, if_neg (by omega), hI_setI]
    by_cases e : i = tx.length
    · subst e; rw [if_pos ⟨rfl, rfl⟩]; simp
    · rw [if_neg (by omega), t.2.2 i (by omega)]
      simp only [List.getD_eq_getElem?_getD]
      rw [List.getElem?_append_left (by omega)]
theorem o_S_sign {A : AS} {tx : List Nat} {rw : List Int32} {h : jHp} (r : RC A tx rw h) (v : Int32) : ∃ h', f_S_sign [.ref 1, .int v] h = some (some (.int (vSign tx v).1), h') ∧ RC A (vSign tx v).2 rw h' ∧ FC h h' := by
  have r0 := r
  have hs := r.1.1.1
  have t := r.2.2.2.1
  have hl := t.1.1
  have c0 := t.2.1
  unfold vSign
  by_cases z : tx.length + 4 ≤ 100
  · rw [if_pos z]
    have b3 : bytN v 3 < 256 := Nat.mod_lt _ (by decide)
    have b2 : bytN v 2 < 256 := Nat.mod_lt _ (by decide)
    have b1 : bytN v 1 < 256 := Nat.mod_lt _ (by decide)
    have b0 : bytN v 0 < 256 := Nat.mod_lt _ (by decide)
    have s3 := T_app_step hs (s := 3) v (by omega) (by decide) c0
    have t1 := CTx_app t (by omega) b3
    have f1 : Fr W88 h (hSetI (hSetI h 89 tx.length (nI (bytN v 3))) 88 1 (nI (tx.length + 1))) := Fr_trans (Fr_set _ (Or.inr rfl)) (Fr_set _ (Or.inl ⟨rfl, rfl⟩))
    generalize hSetI (hSetI h 89 tx.length (nI (bytN v 3))) 88 1 (nI (tx.length + 1)) = h1 at *
    have hs1 := Fr_shape hs f1
    have l1 : (tx ++ [bytN v 3]).length = tx.length + 1 := by simp
    have s2 := T_app_step hs1 (s := 2) v (m := tx.length + 1) (by omega) (by decide) (by rw [← l1]; exact t1.2.1)
    have t2 := CTx_app t1 (by omega) b2
    rw [l1] at t2
    have f2 : Fr W88 h1 (hSetI (hSetI h1 89 (tx.length + 1) (nI (bytN v 2))) 88 1 (nI (tx.length + 1 + 1))) := Fr_trans (Fr_set _ (Or.inr rfl)) (Fr_set _ (Or.inl ⟨rfl, rfl⟩))
    generalize hSetI (hSetI h1 89 (tx.length + 1) (nI (bytN v 2))) 88 1 (nI (tx.length + 1 + 1)) = h2 at *
    have hs2 := Fr_shape hs1 f2
    have l2 : (tx ++ [bytN v 3] ++ [bytN v 2]).length = tx.length + 1 + 1 := by simp
    have s1 := T_app_step hs2 (s := 1) v (m := tx.length + 1 + 1) (by omega) (by decide) (by rw [← l2]; exact t2.2.1)
    have t3 := CTx_app t2 (by omega) b1
    rw [l2] at t3
    have f3 : Fr W88 h2 (hSetI (hSetI h2 89 (tx.length + 1 + 1) (nI (bytN v 1))) 88 1 (nI (tx.length + 1 + 1 + 1))) := Fr_trans (Fr_set _ (Or.inr rfl)) (Fr_set _ (Or.inl ⟨rfl, rfl⟩))
    generalize hSetI (hSetI h2 89 (tx.length + 1 + 1) (nI (bytN v 1))) 88 1 (nI (tx.length + 1 + 1 + 1)) = h3 at *
    have hs3 := Fr_shape hs2 f3
    have l3 : (tx ++ [bytN v 3] ++ [bytN v 2] ++ [bytN v 1]).length = tx.length + 1 + 1 + 1 := by simp
    have s0 := T_app_step hs3 (s := 0) v (m := tx.length + 1 + 1 + 1) (by omega) (by decide) (by rw [← l3]; exact t3.2.1)
    have t4 := CTx_app t3 (by omega) b0
    rw [l3] at t4
    have f4 : Fr W88 h3 (hSetI (hSetI h3 89 (tx.length + 1 + 1 + 1) (nI (bytN v 0))) 88 1 (nI (tx.length + 1 + 1 + 1 + 1))) := Fr_trans (Fr_set _ (Or.inr rfl)) (Fr_set _ (Or.inl ⟨rfl, rfl⟩))
    generalize hSetI (hSetI h3 89 (tx.length + 1 + 1 + 1) (nI (bytN v 0))) 88 1 (nI (tx.length + 1 + 1 + 1 + 1)) = h4 at *
    have hs4 := Fr_shape hs3 f4
    have l4 : (tx ++ [bytN v 3] ++ [bytN v 2] ++ [bytN v 1] ++ [bytN v 0]).length = tx.length + 4 := by simp
    have c4 : hI h4 88 1 = nI (tx.length + 4) := by rw [t4.2.1, l4]
    have n3 : nI (8 * 3) + -8 = nI (8 * 2) := by decide
    have n2 : nI (8 * 2) + -8 = nI (8 * 1) := by decide
    have n1 : nI (8 * 1) + -8 = nI (8 * 0) := by decide
    have n0 : nI (8 * 0) + -8 = (-8 : Int32) := by decide
    rw [n3] at s3
    rw [n2] at s2
    rw [n1] at s1
    rw [n0] at s0
    have hm : ¬ (0 : Int32) ≤ -8 := by decide
    have se : lstp 1 2 lc_T_append_1 lb_T_append_1 lu_T_append_1 ([.ref 88, .int v, .int (-8)], h4) = some (.inr (.inl 0, ([.ref 88, .int v, .int (-8)], h4))) := by simp (disch := first | assumption | omega) [lstp, lc_T_append_1, lb_T_append_1, lu_T_append_1, j_meth, j_out, j_rok, j_pad, lg_sl, s_seq_w, isN_inl, isN_inr, s_if, jb, x_c, x_iloc, x_aloc, x_lloc, x_bin, x_un, o_add, o_sub, o_mul, o_and, o_or, o_xor, o_shl, o_shr, o_ushr, o_max, o_min, o_i2b, o_i2c, o_i2l, o_l2i, x_fld, j_fget, x_idx, j_aget, x_len, j_alen, x_ofb, x_ite, xs_nil, xs_cons, x_callv, x_calls, s_callv, s_calls, j_recv, j_ret, j_retv, b_cmp, b_and, b_or, b_not, b_ofi, b_ite, b_true, s_skip, s_set, j_ty, j_lset, j_kill, s_inc, s_fput, j_fput, s_fop, s_aput, j_aput, j_nar, s_aop, s_ret, s_retv, s_go, s_pop, x_linc, x_finc, Value.category, if_icmp.holds, List.flatMap_cons, List.flatMap_nil, List.length_cons, List.length_append, List.length_nil, List.set_cons_succ, List.set_cons_zero, List.getElem?_cons_succ, List.getElem?_cons_zero, List.replicate, ite_and', ite_or', ite_int', nI_leI, nI_ltI, nI_eq, nI_add, nI_1, pk_mul, nI_clamp, n_in', nI_pos', nI_pos, n_m1e, n_01, n_10, sT_1, sR_1_0, sR_1_1, sR_1_2, sR_1_3, sR_1_4, sR_1_5, sR_1_6, sR_1_7, sR_1_8, sR_1_9, sT_2, sT_3, sT_4, sT_5, sT_6, sT_7, sT_8, sT_9, sT_10, sT_11, sT_12, sT_13, sT_14, sR_2_1, sR_2_2, sR_2_3, sR_2_4, sR_2_5, sR_2_6, sR_2_7, sR_2_8, sR_2_9, sR_2_10, sR_2_11, sR_2_12, sT_15, sT_16, sT_17, sT_18, sT_19, sT_20, sT_21, sT_22, sT_23, sR_15_1, sR_15_2, sR_15_3, sR_15_4, sR_15_5, sR_15_6, sR_15_7, sR_15_8, sT_24, sT_25, sT_26, sT_27, sT_28, sT_29, sR_24_1, sR_24_2, sR_24_3, sR_24_4, sR_24_5, sT_71, sT_72, sR_71_0, sR_71_1, sR_71_2, sR_71_3, sR_71_4, sT_73, sT_74, sT_75, sR_73_0, sR_73_1, sR_73_2, sR_73_3, sR_73_4, sR_73_5, sT_84, sT_85, sT_86, sT_87, sR_84_0, sR_84_1, sR_84_2, sR_84_3, sR_84_4, sR_84_5, sT_88, sT_89, sR_88_0, sT_90, sT_91, sR_90_0, hm]
    have hL := s_loop_inl s3 (s_loop_inl s2 (s_loop_inl s1 (s_loop_inl s0 (s_loop_inr se))))
    have e24 : nI (8 * 3) = nI 24 := rfl
    rw [e24] at hL
    have htx : tx ++ byts v = tx ++ [bytN v 3] ++ [bytN v 2] ++ [bytN v 1] ++ [bytN v 0] := by unfold byts; simp
    refine ⟨h4, ?_, ?_⟩
    · clear s3 s2 s1 s0 se t1 t2 t3 t4 f1 f2 f3 f4 t r r0
      have z' : ¬ 100 < tx.length + 4 := by omega
      simp (disch := first | assumption | omega) [f_S_sign, body_S_sign, j_meth, j_out, j_rok, j_pad, lg_sl, s_seq_w, isN_inl, isN_inr, s_if, jb, x_c, x_iloc, x_aloc, x_lloc, x_bin, x_un, o_add, o_sub, o_mul, o_and, o_or, o_xor, o_shl, o_shr, o_ushr, o_max, o_min, o_i2b, o_i2c, o_i2l, o_l2i, x_fld, j_fget, x_idx, j_aget, x_len, j_alen, x_ofb, x_ite, xs_nil, xs_cons, x_callv, x_calls, s_callv, s_calls, j_recv, j_ret, j_retv, b_cmp, b_and, b_or, b_not, b_ofi, b_ite, b_true, s_skip, s_set, j_ty, j_lset, j_kill, s_inc, s_fput, j_fput, s_fop, s_aput, j_aput, j_nar, s_aop, s_ret, s_retv, s_go, s_pop, x_linc, x_finc, Value.category, if_icmp.holds, List.flatMap_cons, List.flatMap_nil, List.length_cons, List.length_append, List.length_nil, List.set_cons_succ, List.set_cons_zero, List.getElem?_cons_succ, List.getElem?_cons_zero, List.replicate, ite_and', ite_or', ite_int', nI_leI, nI_ltI, nI_eq, nI_add, nI_1, pk_mul, nI_clamp, n_in', nI_pos', nI_pos, n_m1e, n_01, n_10, sT_1, sR_1_0, sR_1_1, sR_1_2, sR_1_3, sR_1_4, sR_1_5, sR_1_6, sR_1_7, sR_1_8, sR_1_9, sT_2, sT_3, sT_4, sT_5, sT_6, sT_7, sT_8, sT_9, sT_10, sT_11, sT_12, sT_13, sT_14, sR_2_1, sR_2_2, sR_2_3, sR_2_4, sR_2_5, sR_2_6, sR_2_7, sR_2_8, sR_2_9, sR_2_10, sR_2_11, sR_2_12, sT_15, sT_16, sT_17, sT_18, sT_19, sT_20, sT_21, sT_22, sT_23, sR_15_1, sR_15_2, sR_15_3, sR_15_4, sR_15_5, sR_15_6, sR_15_7, sR_15_8, sT_24, sT_25, sT_26, sT_27, sT_28, sT_29, sR_24_1, sR_24_2, sR_24_3, sR_24_4, sR_24_5, sT_71, sT_72, sR_71_0, sR_71_1, sR_71_2, sR_71_3, sR_71_4, sT_73, sT_74, sT_75, sR_73_0, sR_73_1, sR_73_2, sR_73_3, sR_73_4, sR_73_5, sT_84, sT_85, sT_86, sT_87, sR_84_0, sR_84_1, sR_84_2, sR_84_3, sR_84_4, sR_84_5, sT_88, sT_89, sR_88_0, sT_90, sT_91, sR_90_0, f_T_append, body_T_append, c0, z', hL, c4]
    · rw [htx]
      exact RC_tx r0 (Fr_trans f1 (Fr_trans f2 (Fr_trans f3 f4))) t4
  · rw [if_neg z]
    refine ⟨h, ?_, r0, FC_refl h⟩
    have z' : 100 < tx.length + 4 := by omega
    simp (disch := first | assumption | omega) [f_S_sign, body_S_sign, j_meth, j_out, j_rok, j_pad, lg_sl, s_seq_w, isN_inl, isN_inr, s_if, jb, x_c, x_iloc, x_aloc, x_lloc, x_bin, x_un, o_add, o_sub, o_mul, o_and, o_or, o_xor, o_shl, o_shr, o_ushr, o_max, o_min, o_i2b, o_i2c, o_i2l, o_l2i, x_fld, j_fget, x_idx, j_aget, x_len, j_alen, x_ofb, x_ite, xs_nil, xs_cons, x_callv, x_calls, s_callv, s_calls, j_recv, j_ret, j_retv, b_cmp, b_and, b_or, b_not, b_ofi, b_ite, b_true, s_skip, s_set, j_ty, j_lset, j_kill, s_inc, s_fput, j_fput, s_fop, s_aput, j_aput, j_nar, s_aop, s_ret, s_retv, s_go, s_pop, x_linc, x_finc, Value.category, if_icmp.holds, List.flatMap_cons, List.flatMap_nil, List.length_cons, List.length_append, List.length_nil, List.set_cons_succ, List.set_cons_zero, List.getElem?_cons_succ, List.getElem?_cons_zero, List.replicate, ite_and', ite_or', ite_int', nI_leI, nI_ltI, nI_eq, nI_add, nI_1, pk_mul, nI_clamp, n_in', nI_pos', nI_pos, n_m1e, n_01, n_10, sT_1, sR_1_0, sR_1_1, sR_1_2, sR_1_3, sR_1_4, sR_1_5, sR_1_6, sR_1_7, sR_1_8, sR_1_9, sT_2, sT_3, sT_4, sT_5, sT_6, sT_7, sT_8, sT_9, sT_10, sT_11, sT_12, sT_13, sT_14, sR_2_1, sR_2_2, sR_2_3, sR_2_4, sR_2_5, sR_2_6, sR_2_7, sR_2_8, sR_2_9, sR_2_10, sR_2_11, sR_2_12, sT_15, sT_16, sT_17, sT_18, sT_19, sT_20, sT_21, sT_22, sT_23, sR_15_1, sR_15_2, sR_15_3, sR_15_4, sR_15_5, sR_15_6, sR_15_7, sR_15_8, sT_24, sT_25, sT_26, sT_27, sT_28, sT_29, sR_24_1, sR_24_2, sR_24_3, sR_24_4, sR_24_5, sT_71, sT_72, sR_71_0, sR_71_1, sR_71_2, sR_71_3, sR_71_4, sT_73, sT_74, sT_75, sR_73_0, sR_73_1, sR_73_2, sR_73_3, sR_73_4, sR_73_5, sT_84, sT_85, sT_86, sT_87, sR_84_0, sR_84_1, sR_84_2, sR_84_3, sR_84_4, sR_84_5, sT_88, sT_89, sR_88_0, sT_90, sT_91, sR_90_0, f_T_append, body_T_append, c0, z']
theorem o_S_end {A : AS} {tx : List Nat} {rw : List Int32} {h : jHp} (r : RC A tx rw h) (x : Int32) : ∃ h', f_S_end [.ref 1, .int x] h = some (some (.int (vEnd tx x).1), h') ∧ RC A (vEnd tx x).2 rw h' ∧ FC h h' := by
  have r0 := r
  have hs := r.1.1.1
  have t := r.2.2.2.1
  have hl := t.1.1
  have c0 := t.2.1
  have hj := j_in_rng (v := x) (m := tx.length) (by omega)
  unfold vEnd
  by_cases z : j_in x (tx.length + 1) = true
  · rw [if_pos z]
    obtain ⟨z1, z2⟩ := hj.mp z
    obtain ⟨n, hn, rfl⟩ := j_in_ex z (by omega)
    rw [nI_clamp (by omega)]
    have f1 : Fr W88 h (hSetI h 88 1 (nI n)) := Fr_set _ (Or.inl ⟨rfl, rfl⟩)
    have t1 : CTx (tx.take n) (hSetI h 88 1 (nI n)) := by
      refine ⟨⟨by rw [List.length_take]; omega, fun y hy => t.1.2 y (List.mem_of_mem_take hy)⟩, by rw [hI_setI, if_pos ⟨rfl, rfl⟩, List.length_take]; congr 1; omega, fun i hi => ?_⟩
      rw [List.length_take] at hi
      rw [hI_setI, if_neg (by omega), t.2.2 i (by omega)]
      simp only [List.getD_eq_getElem?_getD]
      rw [List.getElem?_take_of_lt (by omega)]
    refine ⟨_, ?_, RC_tx r0 f1 t1⟩
    generalize hh : hSetI h 88 1 (nI n) = h1 at *
    have z2' : ¬ tx.length < n := by omega
    simp (disch := first | assumption | omega) [f_S_end, body_S_end, j_meth, j_out, j_rok, j_pad, lg_sl, s_seq_w, isN_inl, isN_inr, s_if, jb, x_c, x_iloc, x_aloc, x_lloc, x_bin, x_un, o_add, o_sub, o_mul, o_and, o_or, o_xor, o_shl, o_shr, o_ushr, o_max, o_min, o_i2b, o_i2c, o_i2l, o_l2i, x_fld, j_fget, x_idx, j_aget, x_len, j_alen, x_ofb, x_ite, xs_nil, xs_cons, x_callv, x_calls, s_callv, s_calls, j_recv, j_ret, j_retv, b_cmp, b_and, b_or, b_not, b_ofi, b_ite, b_true, s_skip, s_set, j_ty, j_lset, j_kill, s_inc, s_fput, j_fput, s_fop, s_aput, j_aput, j_nar, s_aop, s_ret, s_retv, s_go, s_pop, x_linc, x_finc, Value.category, if_icmp.holds, List.flatMap_cons, List.flatMap_nil, List.length_cons, List.length_append, List.length_nil, List.set_cons_succ, List.set_cons_zero, List.getElem?_cons_succ, List.getElem?_cons_zero, List.replicate, ite_and', ite_or', ite_int', nI_leI, nI_ltI, nI_eq, nI_add, nI_1, pk_mul, nI_clamp, n_in', nI_pos', nI_pos, n_m1e, n_01, n_10, sT_1, sR_1_0, sR_1_1, sR_1_2, sR_1_3, sR_1_4, sR_1_5, sR_1_6, sR_1_7, sR_1_8, sR_1_9, sT_2, sT_3, sT_4, sT_5, sT_6, sT_7, sT_8, sT_9, sT_10, sT_11, sT_12, sT_13, sT_14, sR_2_1, sR_2_2, sR_2_3, sR_2_4, sR_2_5, sR_2_6, sR_2_7, sR_2_8, sR_2_9, sR_2_10, sR_2_11, sR_2_12, sT_15, sT_16, sT_17, sT_18, sT_19, sT_20, sT_21, sT_22, sT_23, sR_15_1, sR_15_2, sR_15_3, sR_15_4, sR_15_5, sR_15_6, sR_15_7, sR_15_8, sT_24, sT_25, sT_26, sT_27, sT_28, sT_29, sR_24_1, sR_24_2, sR_24_3, sR_24_4, sR_24_5, sT_71, sT_72, sR_71_0, sR_71_1, sR_71_2, sR_71_3, sR_71_4, sT_73, sT_74, sT_75, sR_73_0, sR_73_1, sR_73_2, sR_73_3, sR_73_4, sR_73_5, sT_84, sT_85, sT_86, sT_87, sR_84_0, sR_84_1, sR_84_2, sR_84_3, sR_84_4, sR_84_5, sT_88, sT_89, sR_88_0, sT_90, sT_91, sR_90_0, c0, z1, z2', hh, n_e1]
  · rw [if_neg z]
    refine ⟨h, ?_, r0, FC_refl h⟩
    by_cases z1 : x < 0
    · simp (disch := first | assumption | omega) [f_S_end, body_S_end, j_meth, j_out, j_rok, j_pad, lg_sl, s_seq_w, isN_inl, isN_inr, s_if, jb, x_c, x_iloc, x_aloc, x_lloc, x_bin, x_un, o_add, o_sub, o_mul, o_and, o_or, o_xor, o_shl, o_shr, o_ushr, o_max, o_min, o_i2b, o_i2c, o_i2l, o_l2i, x_fld, j_fget, x_idx, j_aget, x_len, j_alen, x_ofb, x_ite, xs_nil, xs_cons, x_callv, x_calls, s_callv, s_calls, j_recv, j_ret, j_retv, b_cmp, b_and, b_or, b_not, b_ofi, b_ite, b_true, s_skip, s_set, j_ty, j_lset, j_kill, s_inc, s_fput, j_fput, s_fop, s_aput, j_aput, j_nar, s_aop, s_ret, s_retv, s_go, s_pop, x_linc, x_finc, Value.category, if_icmp.holds, List.flatMap_cons, List.flatMap_nil, List.length_cons, List.length_append, List.length_nil, List.set_cons_succ, List.set_cons_zero, List.getElem?_cons_succ, List.getElem?_cons_zero, List.replicate, ite_and', ite_or', ite_int', nI_leI, nI_ltI, nI_eq, nI_add, nI_1, pk_mul, nI_clamp, n_in', nI_pos', nI_pos, n_m1e, n_01, n_10, sT_1, sR_1_0, sR_1_1, sR_1_2, sR_1_3, sR_1_4, sR_1_5, sR_1_6, sR_1_7, sR_1_8, sR_1_9, sT_2, sT_3, sT_4, sT_5, sT_6, sT_7, sT_8, sT_9, sT_10, sT_11, sT_12, sT_13, sT_14, sR_2_1, sR_2_2, sR_2_3, sR_2_4, sR_2_5, sR_2_6, sR_2_7, sR_2_8, sR_2_9, sR_2_10, sR_2_11, sR_2_12, sT_15, sT_16, sT_17, sT_18, sT_19, sT_20, sT_21, sT_22, sT_23, sR_15_1, sR_15_2, sR_15_3, sR_15_4, sR_15_5, sR_15_6, sR_15_7, sR_15_8, sT_24, sT_25, sT_26, sT_27, sT_28, sT_29, sR_24_1, sR_24_2, sR_24_3, sR_24_4, sR_24_5, sT_71, sT_72, sR_71_0, sR_71_1, sR_71_2, sR_71_3, sR_71_4, sT_73, sT_74, sT_75, sR_73_0, sR_73_1, sR_73_2, sR_73_3, sR_73_4, sR_73_5, sT_84, sT_85, sT_86, sT_87, sR_84_0, sR_84_1, sR_84_2, sR_84_3, sR_84_4, sR_84_5, sT_88, sT_89, sR_88_0, sT_90, sT_91, sR_90_0, z1]
      try decide
    · have z2 : nI tx.length < x := by
        cases q : decide (nI tx.length < x) with
        | true => simpa using q
        | false => exact absurd (hj.mpr ⟨z1, by simpa using q⟩) z
      simp (disch := first | assumption | omega) [f_S_end, body_S_end, j_meth, j_out, j_rok, j_pad, lg_sl, s_seq_w, isN_inl, isN_inr, s_if, jb, x_c, x_iloc, x_aloc, x_lloc, x_bin, x_un, o_add, o_sub, o_mul, o_and, o_or, o_xor, o_shl, o_shr, o_ushr, o_max, o_min, o_i2b, o_i2c, o_i2l, o_l2i, x_fld, j_fget, x_idx, j_aget, x_len, j_alen, x_ofb, x_ite, xs_nil, xs_cons, x_callv, x_calls, s_callv, s_calls, j_recv, j_ret, j_retv, b_cmp, b_and, b_or, b_not, b_ofi, b_ite, b_true, s_skip, s_set, j_ty, j_lset, j_kill, s_inc, s_fput, j_fput, s_fop, s_aput, j_aput, j_nar, s_aop, s_ret, s_retv, s_go, s_pop, x_linc, x_finc, Value.category, if_icmp.holds, List.flatMap_cons, List.flatMap_nil, List.length_cons, List.length_append, List.length_nil, List.set_cons_succ, List.set_cons_zero, List.getElem?_cons_succ, List.getElem?_cons_zero, List.replicate, ite_and', ite_or', ite_int', nI_leI, nI_ltI, nI_eq, nI_add, nI_1, pk_mul, nI_clamp, n_in', nI_pos', nI_pos, n_m1e, n_01, n_10, sT_1, sR_1_0, sR_1_1, sR_1_2, sR_1_3, sR_1_4, sR_1_5, sR_1_6, sR_1_7, sR_1_8, sR_1_9, sT_2, sT_3, sT_4, sT_5, sT_6, sT_7, sT_8, sT_9, sT_10, sT_11, sT_12, sT_13, sT_14, sR_2_1, sR_2_2, sR_2_3, sR_2_4, sR_2_5, sR_2_6, sR_2_7, sR_2_8, sR_2_9, sR_2_10, sR_2_11, sR_2_12, sT_15, sT_16, sT_17, sT_18, sT_19, sT_20, sT_21, sT_22, sT_23, sR_15_1, sR_15_2, sR_15_3, sR_15_4, sR_15_5, sR_15_6, sR_15_7, sR_15_8, sT_24, sT_25, sT_26, sT_27, sT_28, sT_29, sR_24_1, sR_24_2, sR_24_3, sR_24_4, sR_24_5, sT_71, sT_72, sR_71_0, sR_71_1, sR_71_2, sR_71_3, sR_71_4, sT_73, sT_74, sT_75, sR_73_0, sR_73_1, sR_73_2, sR_73_3, sR_73_4, sR_73_5, sT_84, sT_85, sT_86, sT_87, sR_84_0, sR_84_1, sR_84_2, sR_84_3, sR_84_4, sR_84_5, sT_88, sT_89, sR_88_0, sT_90, sT_91, sR_90_0, c0, z1, z2]
      try decide
