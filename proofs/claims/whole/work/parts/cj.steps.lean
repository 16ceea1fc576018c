/-! steps -/
theorem e_St_placeOf {A : AS} {σ : Nat → Nat} {ra rl so di qu co : Nat} {h : jHp} (b : BC A σ ra rl so di qu co h) (s1 : ∀ i, i < (sAllR A).length → σ i < (sAllR A).length) (s2 : ∀ i j, i < (sAllR A).length → j < (sAllR A).length → σ i = σ j → i = j) {k : Nat} (hk : k < (sAllR A).length) : ∃ i, i < (sAllR A).length ∧ σ i = k ∧ f_St_placeOf [.ref 77, .int (nI k)] h = some (some (.int (nI i)), h) := by
  obtain ⟨hs, ⟨-, -, -, hNr, hrl, -⟩, ⟨c1, c2, c3⟩, -, -, -, k7, g, -⟩ := b
  obtain ⟨i, hi, e⟩ := inj_sur s1 s2 hk
  have t77 := sT_77 hs
  have hL := loop_1 (lb := 1) (lc := 2) (c := lc_St_placeOf_1) (b := lb_St_placeOf_1) (u := lu_St_placeOf_1) (sAllR A).length (fun a => (([.ref 77, .int (nI k), .int (nI a)], h) : jS)) (fun a => σ a == k)
    (fun a => (.inr (some (.int (nI a))), ([.ref 77, .int (nI k), .int (nI a)], h)))
    (fun a ha hp => by
      have gi := g a ha
      have hin : j_in (nI a) rl = true := n_in' (by omega) (by omega)
      simp only [beq_iff_eq] at hp
      rw [hp] at gi
      clear g
      generalize (sAllR A).length = LL at *
      simp (disch := first | assumption | omega) [lstp, lc_St_placeOf_1, lb_St_placeOf_1, lu_St_placeOf_1, j_meth, j_out, j_rok, j_pad, lg_sl, s_seq_w, isN_inl, isN_inr, s_if, jb, x_c, x_iloc, x_aloc, x_lloc, x_bin, x_un, o_add, o_sub, o_mul, o_and, o_or, o_xor, o_shl, o_shr, o_ushr, o_max, o_min, o_i2b, o_i2c, o_i2l, o_l2i, x_fld, j_fget, x_idx, j_aget, x_len, j_alen, x_ofb, x_ite, xs_nil, xs_cons, x_callv, x_calls, s_callv, s_calls, j_recv, j_ret, j_retv, b_cmp, b_and, b_or, b_not, b_ofi, b_ite, b_true, s_skip, s_set, j_ty, j_lset, j_kill, s_inc, s_fput, j_fput, s_fop, s_aput, j_aput, j_nar, s_aop, s_ret, s_retv, s_go, s_pop, x_linc, x_finc, Value.category, if_icmp.holds, List.flatMap_cons, List.flatMap_nil, List.length_cons, List.length_append, List.length_nil, List.set_cons_succ, List.set_cons_zero, List.getElem?_cons_succ, List.getElem?_cons_zero, List.replicate, ite_and', ite_or', ite_int', nI_leI, nI_ltI, nI_eq, nI_add, nI_1, pk_mul, nI_clamp, n_in', nI_pos', nI_pos, n_m1e, n_01, n_10, sT_1, sR_1_0, sR_1_1, sR_1_2, sR_1_3, sR_1_4, sR_1_5, sR_1_6, sR_1_7, sR_1_8, sR_1_9, sT_2, sT_3, sT_4, sT_5, sT_6, sT_7, sT_8, sT_9, sT_10, sT_11, sT_12, sT_13, sT_14, sR_2_1, sR_2_2, sR_2_3, sR_2_4, sR_2_5, sR_2_6, sR_2_7, sR_2_8, sR_2_9, sR_2_10, sR_2_11, sR_2_12, sT_15, sT_16, sT_17, sT_18, sT_19, sT_20, sT_21, sT_22, sT_23, sR_15_1, sR_15_2, sR_15_3, sR_15_4, sR_15_5, sR_15_6, sR_15_7, sR_15_8, sT_24, sT_25, sT_26, sT_27, sT_28, sT_29, sR_24_1, sR_24_2, sR_24_3, sR_24_4, sR_24_5, sT_71, sT_72, sR_71_0, sR_71_1, sR_71_2, sR_71_3, sR_71_4, sT_73, sT_74, sT_75, sR_73_0, sR_73_1, sR_73_2, sR_73_3, sR_73_4, sR_73_5, sT_84, sT_85, sT_86, sT_87, sR_84_0, sR_84_1, sR_84_2, sR_84_3, sR_84_4, sR_84_5, sT_88, sT_89, sR_88_0, sT_90, sT_91, sR_90_0, t77, k7, ha, c1, c2, c3, hin, gi])
    (fun a ha hp => by
      have gi := g a ha
      have hsl := s1 a ha
      have hin : j_in (nI a) rl = true := n_in' (by omega) (by omega)
      simp only [beq_eq_false_iff_ne] at hp
      have hne : (nI (σ a) = nI k) = False := eq_false fun e => hp ((n_eq (by omega) (by omega)).mp e)
      clear g s1 s2
      generalize σ a = V at *
      generalize (sAllR A).length = LL at *
      simp (disch := first | assumption | omega) [lstp, lc_St_placeOf_1, lb_St_placeOf_1, lu_St_placeOf_1, j_meth, j_out, j_rok, j_pad, lg_sl, s_seq_w, isN_inl, isN_inr, s_if, jb, x_c, x_iloc, x_aloc, x_lloc, x_bin, x_un, o_add, o_sub, o_mul, o_and, o_or, o_xor, o_shl, o_shr, o_ushr, o_max, o_min, o_i2b, o_i2c, o_i2l, o_l2i, x_fld, j_fget, x_idx, j_aget, x_len, j_alen, x_ofb, x_ite, xs_nil, xs_cons, x_callv, x_calls, s_callv, s_calls, j_recv, j_ret, j_retv, b_cmp, b_and, b_or, b_not, b_ofi, b_ite, b_true, s_skip, s_set, j_ty, j_lset, j_kill, s_inc, s_fput, j_fput, s_fop, s_aput, j_aput, j_nar, s_aop, s_ret, s_retv, s_go, s_pop, x_linc, x_finc, Value.category, if_icmp.holds, List.flatMap_cons, List.flatMap_nil, List.length_cons, List.length_append, List.length_nil, List.set_cons_succ, List.set_cons_zero, List.getElem?_cons_succ, List.getElem?_cons_zero, List.replicate, ite_and', ite_or', ite_int', nI_leI, nI_ltI, nI_eq, nI_add, nI_1, pk_mul, nI_clamp, n_in', nI_pos', nI_pos, n_m1e, n_01, n_10, sT_1, sR_1_0, sR_1_1, sR_1_2, sR_1_3, sR_1_4, sR_1_5, sR_1_6, sR_1_7, sR_1_8, sR_1_9, sT_2, sT_3, sT_4, sT_5, sT_6, sT_7, sT_8, sT_9, sT_10, sT_11, sT_12, sT_13, sT_14, sR_2_1, sR_2_2, sR_2_3, sR_2_4, sR_2_5, sR_2_6, sR_2_7, sR_2_8, sR_2_9, sR_2_10, sR_2_11, sR_2_12, sT_15, sT_16, sT_17, sT_18, sT_19, sT_20, sT_21, sT_22, sT_23, sR_15_1, sR_15_2, sR_15_3, sR_15_4, sR_15_5, sR_15_6, sR_15_7, sR_15_8, sT_24, sT_25, sT_26, sT_27, sT_28, sT_29, sR_24_1, sR_24_2, sR_24_3, sR_24_4, sR_24_5, sT_71, sT_72, sR_71_0, sR_71_1, sR_71_2, sR_71_3, sR_71_4, sT_73, sT_74, sT_75, sR_73_0, sR_73_1, sR_73_2, sR_73_3, sR_73_4, sR_73_5, sT_84, sT_85, sT_86, sT_87, sR_84_0, sR_84_1, sR_84_2, sR_84_3, sR_84_4, sR_84_5, sT_88, sT_89, sR_88_0, sT_90, sT_91, sR_90_0, t77, k7, ha, c1, c2, c3, hin, gi, hne])
    (by
      clear g s1 s2
      generalize (sAllR A).length = LL at *
      simp (disch := first | assumption | omega) [lstp, lc_St_placeOf_1, lb_St_placeOf_1, lu_St_placeOf_1, j_meth, j_out, j_rok, j_pad, lg_sl, s_seq_w, isN_inl, isN_inr, s_if, jb, x_c, x_iloc, x_aloc, x_lloc, x_bin, x_un, o_add, o_sub, o_mul, o_and, o_or, o_xor, o_shl, o_shr, o_ushr, o_max, o_min, o_i2b, o_i2c, o_i2l, o_l2i, x_fld, j_fget, x_idx, j_aget, x_len, j_alen, x_ofb, x_ite, xs_nil, xs_cons, x_callv, x_calls, s_callv, s_calls, j_recv, j_ret, j_retv, b_cmp, b_and, b_or, b_not, b_ofi, b_ite, b_true, s_skip, s_set, j_ty, j_lset, j_kill, s_inc, s_fput, j_fput, s_fop, s_aput, j_aput, j_nar, s_aop, s_ret, s_retv, s_go, s_pop, x_linc, x_finc, Value.category, if_icmp.holds, List.flatMap_cons, List.flatMap_nil, List.length_cons, List.length_append, List.length_nil, List.set_cons_succ, List.set_cons_zero, List.getElem?_cons_succ, List.getElem?_cons_zero, List.replicate, ite_and', ite_or', ite_int', nI_leI, nI_ltI, nI_eq, nI_add, nI_1, pk_mul, nI_clamp, n_in', nI_pos', nI_pos, n_m1e, n_01, n_10, sT_1, sR_1_0, sR_1_1, sR_1_2, sR_1_3, sR_1_4, sR_1_5, sR_1_6, sR_1_7, sR_1_8, sR_1_9, sT_2, sT_3, sT_4, sT_5, sT_6, sT_7, sT_8, sT_9, sT_10, sT_11, sT_12, sT_13, sT_14, sR_2_1, sR_2_2, sR_2_3, sR_2_4, sR_2_5, sR_2_6, sR_2_7, sR_2_8, sR_2_9, sR_2_10, sR_2_11, sR_2_12, sT_15, sT_16, sT_17, sT_18, sT_19, sT_20, sT_21, sT_22, sT_23, sR_15_1, sR_15_2, sR_15_3, sR_15_4, sR_15_5, sR_15_6, sR_15_7, sR_15_8, sT_24, sT_25, sT_26, sT_27, sT_28, sT_29, sR_24_1, sR_24_2, sR_24_3, sR_24_4, sR_24_5, sT_71, sT_72, sR_71_0, sR_71_1, sR_71_2, sR_71_3, sR_71_4, sT_73, sT_74, sT_75, sR_73_0, sR_73_1, sR_73_2, sR_73_3, sR_73_4, sR_73_5, sT_84, sT_85, sT_86, sT_87, sR_84_0, sR_84_1, sR_84_2, sR_84_3, sR_84_4, sR_84_5, sT_88, sT_89, sR_88_0, sT_90, sT_91, sR_90_0, t77, k7])
  have hf : fst1 (fun a => σ a == k) (sAllR A).length = some i := fst1_of hi (by simpa using e) fun m hm => by
    simp only [beq_eq_false_iff_ne]
    intro q
    have := s2 m i (by omega) hi (by rw [q, e])
    omega
  rw [hf] at hL
  simp only [nI_0] at hL
  refine ⟨i, hi, e, ?_⟩
  simp (disch := first | assumption | omega) [f_St_placeOf, body_St_placeOf, j_meth, j_out, j_rok, j_pad, lg_sl, s_seq_w, isN_inl, isN_inr, s_if, jb, x_c, x_iloc, x_aloc, x_lloc, x_bin, x_un, o_add, o_sub, o_mul, o_and, o_or, o_xor, o_shl, o_shr, o_ushr, o_max, o_min, o_i2b, o_i2c, o_i2l, o_l2i, x_fld, j_fget, x_idx, j_aget, x_len, j_alen, x_ofb, x_ite, xs_nil, xs_cons, x_callv, x_calls, s_callv, s_calls, j_recv, j_ret, j_retv, b_cmp, b_and, b_or, b_not, b_ofi, b_ite, b_true, s_skip, s_set, j_ty, j_lset, j_kill, s_inc, s_fput, j_fput, s_fop, s_aput, j_aput, j_nar, s_aop, s_ret, s_retv, s_go, s_pop, x_linc, x_finc, Value.category, if_icmp.holds, List.flatMap_cons, List.flatMap_nil, List.length_cons, List.length_append, List.length_nil, List.set_cons_succ, List.set_cons_zero, List.getElem?_cons_succ, List.getElem?_cons_zero, List.replicate, ite_and', ite_or', ite_int', nI_leI, nI_ltI, nI_eq, nI_add, nI_1, pk_mul, nI_clamp, n_in', nI_pos', nI_pos, n_m1e, n_01, n_10, sT_1, sR_1_0, sR_1_1, sR_1_2, sR_1_3, sR_1_4, sR_1_5, sR_1_6, sR_1_7, sR_1_8, sR_1_9, sT_2, sT_3, sT_4, sT_5, sT_6, sT_7, sT_8, sT_9, sT_10, sT_11, sT_12, sT_13, sT_14, sR_2_1, sR_2_2, sR_2_3, sR_2_4, sR_2_5, sR_2_6, sR_2_7, sR_2_8, sR_2_9, sR_2_10, sR_2_11, sR_2_12, sT_15, sT_16, sT_17, sT_18, sT_19, sT_20, sT_21, sT_22, sT_23, sR_15_1, sR_15_2, sR_15_3, sR_15_4, sR_15_5, sR_15_6, sR_15_7, sR_15_8, sT_24, sT_25, sT_26, sT_27, sT_28, sT_29, sR_24_1, sR_24_2, sR_24_3, sR_24_4, sR_24_5, sT_71, sT_72, sR_71_0, sR_71_1, sR_71_2, sR_71_3, sR_71_4, sT_73, sT_74, sT_75, sR_73_0, sR_73_1, sR_73_2, sR_73_3, sR_73_4, sR_73_5, sT_84, sT_85, sT_86, sT_87, sR_84_0, sR_84_1, sR_84_2, sR_84_3, sR_84_4, sR_84_5, sT_88, sT_89, sR_88_0, sT_90, sT_91, sR_90_0, nI_0, hL]
theorem e_St_indexOf {A : AS} {fa fl : Nat} {h : jHp} (hs : Shape h) (w : WF A) (k : KF A fa fl h) (x : Int32) : f_St_indexOf [.ref 77, .int x] h = some (some (.int (oI (fst1 (fun i => decide (nI ((sAllR A).getD i 0) = x)) (sAllR A).length))), h) := by
  have hlen := sAllR_len w
  obtain ⟨⟨k1, k2, k3, -⟩, k5, k6, k7, k8⟩ := k
  have t77 := sT_77 hs
  have hL := loop_1 (lb := 1) (lc := 2) (c := lc_St_indexOf_1) (b := lb_St_indexOf_1) (u := lu_St_indexOf_1) (sAllR A).length (fun a => (([.ref 77, .int x, .int (nI a)], h) : jS)) (fun i => decide (nI ((sAllR A).getD i 0) = x))
    (fun a => (.inr (some (.int (nI a))), ([.ref 77, .int x, .int (nI a)], h)))
    (fun a ha hp => by
      have gi := k8 a ha
      have hin : j_in (nI a) fl = true := n_in' (by omega) (by omega)
      rw [decide_eq_true_eq] at hp
      rw [hp] at gi
      clear k8
      generalize (sAllR A).length = LL at *
      simp (disch := first | assumption | omega) [lstp, lc_St_indexOf_1, lb_St_indexOf_1, lu_St_indexOf_1, j_meth, j_out, j_rok, j_pad, lg_sl, s_seq_w, isN_inl, isN_inr, s_if, jb, x_c, x_iloc, x_aloc, x_lloc, x_bin, x_un, o_add, o_sub, o_mul, o_and, o_or, o_xor, o_shl, o_shr, o_ushr, o_max, o_min, o_i2b, o_i2c, o_i2l, o_l2i, x_fld, j_fget, x_idx, j_aget, x_len, j_alen, x_ofb, x_ite, xs_nil, xs_cons, x_callv, x_calls, s_callv, s_calls, j_recv, j_ret, j_retv, b_cmp, b_and, b_or, b_not, b_ofi, b_ite, b_true, s_skip, s_set, j_ty, j_lset, j_kill, s_inc, s_fput, j_fput, s_fop, s_aput, j_aput, j_nar, s_aop, s_ret, s_retv, s_go, s_pop, x_linc, x_finc, Value.category, if_icmp.holds, List.flatMap_cons, List.flatMap_nil, List.length_cons, List.length_append, List.length_nil, List.set_cons_succ, List.set_cons_zero, List.getElem?_cons_succ, List.getElem?_cons_zero, List.replicate, ite_and', ite_or', ite_int', nI_leI, nI_ltI, nI_eq, nI_add, nI_1, pk_mul, nI_clamp, n_in', nI_pos', nI_pos, n_m1e, n_01, n_10, sT_1, sR_1_0, sR_1_1, sR_1_2, sR_1_3, sR_1_4, sR_1_5, sR_1_6, sR_1_7, sR_1_8, sR_1_9, sT_2, sT_3, sT_4, sT_5, sT_6, sT_7, sT_8, sT_9, sT_10, sT_11, sT_12, sT_13, sT_14, sR_2_1, sR_2_2, sR_2_3, sR_2_4, sR_2_5, sR_2_6, sR_2_7, sR_2_8, sR_2_9, sR_2_10, sR_2_11, sR_2_12, sT_15, sT_16, sT_17, sT_18, sT_19, sT_20, sT_21, sT_22, sT_23, sR_15_1, sR_15_2, sR_15_3, sR_15_4, sR_15_5, sR_15_6, sR_15_7, sR_15_8, sT_24, sT_25, sT_26, sT_27, sT_28, sT_29, sR_24_1, sR_24_2, sR_24_3, sR_24_4, sR_24_5, sT_71, sT_72, sR_71_0, sR_71_1, sR_71_2, sR_71_3, sR_71_4, sT_73, sT_74, sT_75, sR_73_0, sR_73_1, sR_73_2, sR_73_3, sR_73_4, sR_73_5, sT_84, sT_85, sT_86, sT_87, sR_84_0, sR_84_1, sR_84_2, sR_84_3, sR_84_4, sR_84_5, sT_88, sT_89, sR_88_0, sT_90, sT_91, sR_90_0, t77, k5, ha, k1, k2, k3, hin, gi])
    (fun a ha hp => by
      have gi := k8 a ha
      have hin : j_in (nI a) fl = true := n_in' (by omega) (by omega)
      rw [decide_eq_false_iff_not] at hp
      clear k8
      generalize nI ((sAllR A).getD a 0) = V at *
      generalize (sAllR A).length = LL at *
      simp (disch := first | assumption | omega) [lstp, lc_St_indexOf_1, lb_St_indexOf_1, lu_St_indexOf_1, j_meth, j_out, j_rok, j_pad, lg_sl, s_seq_w, isN_inl, isN_inr, s_if, jb, x_c, x_iloc, x_aloc, x_lloc, x_bin, x_un, o_add, o_sub, o_mul, o_and, o_or, o_xor, o_shl, o_shr, o_ushr, o_max, o_min, o_i2b, o_i2c, o_i2l, o_l2i, x_fld, j_fget, x_idx, j_aget, x_len, j_alen, x_ofb, x_ite, xs_nil, xs_cons, x_callv, x_calls, s_callv, s_calls, j_recv, j_ret, j_retv, b_cmp, b_and, b_or, b_not, b_ofi, b_ite, b_true, s_skip, s_set, j_ty, j_lset, j_kill, s_inc, s_fput, j_fput, s_fop, s_aput, j_aput, j_nar, s_aop, s_ret, s_retv, s_go, s_pop, x_linc, x_finc, Value.category, if_icmp.holds, List.flatMap_cons, List.flatMap_nil, List.length_cons, List.length_append, List.length_nil, List.set_cons_succ, List.set_cons_zero, List.getElem?_cons_succ, List.getElem?_cons_zero, List.replicate, ite_and', ite_or', ite_int', nI_leI, nI_ltI, nI_eq, nI_add, nI_1, pk_mul, nI_clamp, n_in', nI_pos', nI_pos, n_m1e, n_01, n_10, sT_1, sR_1_0, sR_1_1, sR_1_2, sR_1_3, sR_1_4, sR_1_5, sR_1_6, sR_1_7, sR_1_8, sR_1_9, sT_2, sT_3, sT_4, sT_5, sT_6, sT_7, sT_8, sT_9, sT_10, sT_11, sT_12, sT_13, sT_14, sR_2_1, sR_2_2, sR_2_3, sR_2_4, sR_2_5, sR_2_6, sR_2_7, sR_2_8, sR_2_9, sR_2_10, sR_2_11, sR_2_12, sT_15, sT_16, sT_17, sT_18, sT_19, sT_20, sT_21, sT_22, sT_23, sR_15_1, sR_15_2, sR_15_3, sR_15_4, sR_15_5, sR_15_6, sR_15_7, sR_15_8, sT_24, sT_25, sT_26, sT_27, sT_28, sT_29, sR_24_1, sR_24_2, sR_24_3, sR_24_4, sR_24_5, sT_71, sT_72, sR_71_0, sR_71_1, sR_71_2, sR_71_3, sR_71_4, sT_73, sT_74, sT_75, sR_73_0, sR_73_1, sR_73_2, sR_73_3, sR_73_4, sR_73_5, sT_84, sT_85, sT_86, sT_87, sR_84_0, sR_84_1, sR_84_2, sR_84_3, sR_84_4, sR_84_5, sT_88, sT_89, sR_88_0, sT_90, sT_91, sR_90_0, t77, k5, ha, k1, k2, k3, hin, gi, hp])
    (by
      clear k8
      generalize (sAllR A).length = LL at *
      simp (disch := first | assumption | omega) [lstp, lc_St_indexOf_1, lb_St_indexOf_1, lu_St_indexOf_1, j_meth, j_out, j_rok, j_pad, lg_sl, s_seq_w, isN_inl, isN_inr, s_if, jb, x_c, x_iloc, x_aloc, x_lloc, x_bin, x_un, o_add, o_sub, o_mul, o_and, o_or, o_xor, o_shl, o_shr, o_ushr, o_max, o_min, o_i2b, o_i2c, o_i2l, o_l2i, x_fld, j_fget, x_idx, j_aget, x_len, j_alen, x_ofb, x_ite, xs_nil, xs_cons, x_callv, x_calls, s_callv, s_calls, j_recv, j_ret, j_retv, b_cmp, b_and, b_or, b_not, b_ofi, b_ite, b_true, s_skip, s_set, j_ty, j_lset, j_kill, s_inc, s_fput, j_fput, s_fop, s_aput, j_aput, j_nar, s_aop, s_ret, s_retv, s_go, s_pop, x_linc, x_finc, Value.category, if_icmp.holds, List.flatMap_cons, List.flatMap_nil, List.length_cons, List.length_append, List.length_nil, List.set_cons_succ, List.set_cons_zero, List.getElem?_cons_succ, List.getElem?_cons_zero, List.replicate, ite_and', ite_or', ite_int', nI_leI, nI_ltI, nI_eq, nI_add, nI_1, pk_mul, nI_clamp, n_in', nI_pos', nI_pos, n_m1e, n_01, n_10, sT_1, sR_1_0, sR_1_1, sR_1_2, sR_1_3, sR_1_4, sR_1_5, sR_1_6, sR_1_7, sR_1_8, sR_1_9, sT_2, sT_3, sT_4, sT_5, sT_6, sT_7, sT_8, sT_9, sT_10, sT_11, sT_12, sT_13, sT_14, sR_2_1, sR_2_2, sR_2_3, sR_2_4, sR_2_5, sR_2_6, sR_2_7, sR_2_8, sR_2_9, sR_2_10, sR_2_11, sR_2_12, sT_15, sT_16, sT_17, sT_18, sT_19, sT_20, sT_21, sT_22, sT_23, sR_15_1, sR_15_2, sR_15_3, sR_15_4, sR_15_5, sR_15_6, sR_15_7, sR_15_8, sT_24, sT_25, sT_26, sT_27, sT_28, sT_29, sR_24_1, sR_24_2, sR_24_3, sR_24_4, sR_24_5, sT_71, sT_72, sR_71_0, sR_71_1, sR_71_2, sR_71_3, sR_71_4, sT_73, sT_74, sT_75, sR_73_0, sR_73_1, sR_73_2, sR_73_3, sR_73_4, sR_73_5, sT_84, sT_85, sT_86, sT_87, sR_84_0, sR_84_1, sR_84_2, sR_84_3, sR_84_4, sR_84_5, sT_88, sT_89, sR_88_0, sT_90, sT_91, sR_90_0, t77, k5])
  clear k8
  cases hq : fst1 (fun i => decide (nI ((sAllR A).getD i 0) = x)) (sAllR A).length with
  | none =>
    rw [hq] at hL
    simp only [nI_0] at hL
    rw [oI_n]
    generalize (sAllR A).length = LL at *
    simp (disch := first | assumption | omega) [f_St_indexOf, body_St_indexOf, j_meth, j_out, j_rok, j_pad, lg_sl, s_seq_w, isN_inl, isN_inr, s_if, jb, x_c, x_iloc, x_aloc, x_lloc, x_bin, x_un, o_add, o_sub, o_mul, o_and, o_or, o_xor, o_shl, o_shr, o_ushr, o_max, o_min, o_i2b, o_i2c, o_i2l, o_l2i, x_fld, j_fget, x_idx, j_aget, x_len, j_alen, x_ofb, x_ite, xs_nil, xs_cons, x_callv, x_calls, s_callv, s_calls, j_recv, j_ret, j_retv, b_cmp, b_and, b_or, b_not, b_ofi, b_ite, b_true, s_skip, s_set, j_ty, j_lset, j_kill, s_inc, s_fput, j_fput, s_fop, s_aput, j_aput, j_nar, s_aop, s_ret, s_retv, s_go, s_pop, x_linc, x_finc, Value.category, if_icmp.holds, List.flatMap_cons, List.flatMap_nil, List.length_cons, List.length_append, List.length_nil, List.set_cons_succ, List.set_cons_zero, List.getElem?_cons_succ, List.getElem?_cons_zero, List.replicate, ite_and', ite_or', ite_int', nI_leI, nI_ltI, nI_eq, nI_add, nI_1, pk_mul, nI_clamp, n_in', nI_pos', nI_pos, n_m1e, n_01, n_10, sT_1, sR_1_0, sR_1_1, sR_1_2, sR_1_3, sR_1_4, sR_1_5, sR_1_6, sR_1_7, sR_1_8, sR_1_9, sT_2, sT_3, sT_4, sT_5, sT_6, sT_7, sT_8, sT_9, sT_10, sT_11, sT_12, sT_13, sT_14, sR_2_1, sR_2_2, sR_2_3, sR_2_4, sR_2_5, sR_2_6, sR_2_7, sR_2_8, sR_2_9, sR_2_10, sR_2_11, sR_2_12, sT_15, sT_16, sT_17, sT_18, sT_19, sT_20, sT_21, sT_22, sT_23, sR_15_1, sR_15_2, sR_15_3, sR_15_4, sR_15_5, sR_15_6, sR_15_7, sR_15_8, sT_24, sT_25, sT_26, sT_27, sT_28, sT_29, sR_24_1, sR_24_2, sR_24_3, sR_24_4, sR_24_5, sT_71, sT_72, sR_71_0, sR_71_1, sR_71_2, sR_71_3, sR_71_4, sT_73, sT_74, sT_75, sR_73_0, sR_73_1, sR_73_2, sR_73_3, sR_73_4, sR_73_5, sT_84, sT_85, sT_86, sT_87, sR_84_0, sR_84_1, sR_84_2, sR_84_3, sR_84_4, sR_84_5, sT_88, sT_89, sR_88_0, sT_90, sT_91, sR_90_0, nI_0, hL]
  | some i =>
    rw [hq] at hL
    simp only [nI_0] at hL
    rw [oI_s]
    simp (disch := first | assumption | omega) [f_St_indexOf, body_St_indexOf, j_meth, j_out, j_rok, j_pad, lg_sl, s_seq_w, isN_inl, isN_inr, s_if, jb, x_c, x_iloc, x_aloc, x_lloc, x_bin, x_un, o_add, o_sub, o_mul, o_and, o_or, o_xor, o_shl, o_shr, o_ushr, o_max, o_min, o_i2b, o_i2c, o_i2l, o_l2i, x_fld, j_fget, x_idx, j_aget, x_len, j_alen, x_ofb, x_ite, xs_nil, xs_cons, x_callv, x_calls, s_callv, s_calls, j_recv, j_ret, j_retv, b_cmp, b_and, b_or, b_not, b_ofi, b_ite, b_true, s_skip, s_set, j_ty, j_lset, j_kill, s_inc, s_fput, j_fput, s_fop, s_aput, j_aput, j_nar, s_aop, s_ret, s_retv, s_go, s_pop, x_linc, x_finc, Value.category, if_icmp.holds, List.flatMap_cons, List.flatMap_nil, List.length_cons, List.length_append, List.length_nil, List.set_cons_succ, List.set_cons_zero, List.getElem?_cons_succ, List.getElem?_cons_zero, List.replicate, ite_and', ite_or', ite_int', nI_leI, nI_ltI, nI_eq, nI_add, nI_1, pk_mul, nI_clamp, n_in', nI_pos', nI_pos, n_m1e, n_01, n_10, sT_1, sR_1_0, sR_1_1, sR_1_2, sR_1_3, sR_1_4, sR_1_5, sR_1_6, sR_1_7, sR_1_8, sR_1_9, sT_2, sT_3, sT_4, sT_5, sT_6, sT_7, sT_8, sT_9, sT_10, sT_11, sT_12, sT_13, sT_14, sR_2_1, sR_2_2, sR_2_3, sR_2_4, sR_2_5, sR_2_6, sR_2_7, sR_2_8, sR_2_9, sR_2_10, sR_2_11, sR_2_12, sT_15, sT_16, sT_17, sT_18, sT_19, sT_20, sT_21, sT_22, sT_23, sR_15_1, sR_15_2, sR_15_3, sR_15_4, sR_15_5, sR_15_6, sR_15_7, sR_15_8, sT_24, sT_25, sT_26, sT_27, sT_28, sT_29, sR_24_1, sR_24_2, sR_24_3, sR_24_4, sR_24_5, sT_71, sT_72, sR_71_0, sR_71_1, sR_71_2, sR_71_3, sR_71_4, sT_73, sT_74, sT_75, sR_73_0, sR_73_1, sR_73_2, sR_73_3, sR_73_4, sR_73_5, sT_84, sT_85, sT_86, sT_87, sR_84_0, sR_84_1, sR_84_2, sR_84_3, sR_84_4, sR_84_5, sT_88, sT_89, sR_88_0, sT_90, sT_91, sR_90_0, nI_0, hL]
/-- on the way through the queue -/
theorem e_ds_5 {A : AS} {σ : Nat → Nat} {ra rl so di qu co : Nat} {h : jHp} (w : WF A) (b : BC A σ ra rl so di qu co h) (sok : SOK A (sAllR A) σ) {s e : Nat} (hsN : s < (sAllR A).length) (heN : e < (sAllR A).length) (db : DB (sAllR A).length di qu [s] (fun _ => 0) h) (x1 x2 : Int32) : ∃ h', ∃ i : Int32, s_loop 1 2 lc_St_distance_1 lb_St_distance_1 lu_St_distance_1 ([.ref 77, .int x1, .int x2, .int (nI e), .int (nI 0)], h) = some (.inl 0, ([.ref 77, .int x1, .int x2, .int (nI e), .int i], h')) ∧ Fr (Wbf di qu co) h h' ∧ hI h' di e = oI (dst (nxS A (sAllR A) σ) (sAllR A).length s e) := by
  have hlen := sAllR_len w
  have hL := loop_wp (lb := 1) (lc := 2) (c := lc_St_distance_1) (b := lb_St_distance_1) (u := lu_St_distance_1) (sAllR A).length
    (fun i st => ∃ h' Q far, st = ([.ref 77, .int x1, .int x2, .int (nI e), .int (nI i)], h') ∧ Fr (Wbf di qu co) h h' ∧ BIn (nxS A (sAllR A) σ) (sAllR A).length s Q far i ∧ DB (sAllR A).length di qu Q far h')
    (fun r => ∃ h', ∃ i : Int32, r = (.inl 0, ([.ref 77, .int x1, .int x2, .int (nI e), .int i], h')) ∧ Fr (Wbf di qu co) h h' ∧ hI h' di e = oI (dst (nxS A (sAllR A) σ) (sAllR A).length s e))
    ?_ ?_ ([.ref 77, .int x1, .int x2, .int (nI e), .int (nI 0)], h) ⟨h, [s], fun _ => 0, rfl, Fr_refl _ _, BIn_ini _ hsN, db⟩
  · obtain ⟨r, e1, h1, i, rfl, f1, g1⟩ := hL
    exact ⟨h1, i, e1, f1, g1⟩
  · rintro i st hi ⟨h1, Q, far, rfl, f1, bi, db1⟩
    have b1 := BC_fr b f1
    have hs1 := b1.1
    have hrl := b1.2.1.2.2.2.2.1
    have hNr := b1.2.1.2.2.2.1
    obtain ⟨d1, d2, d3⟩ := b1.2.2.2.1
    obtain ⟨q1, q2, q3⟩ := b1.2.2.2.2.1
    have k7 := b1.2.2.2.2.2.2.1
    have t77 := sT_77 hs1
    have ge := db1.1 e heN
    have g13 := db1.2.2
    have hine : j_in (nI e) rl = true := n_in' (by omega) (by omega)
    have hQl : Q.length ≤ (sAllR A).length := nd_le bi.1 bi.2.1
    by_cases hiQ : i < Q.length
    case neg =>
      right
      have hiq : i = Q.length := by have := bi.2.2.2.2.2.2.2.2; omega
      refine ⟨(.inl 0, ([.ref 77, .int x1, .int x2, .int (nI e), .int (nI i)], h1)), ?_, h1, nI i, rfl, f1, ?_⟩
      · clear bi db1 b1 f1 ge b sok db
        generalize Q.length = LQ at *
        generalize (sAllR A).length = LL at *
        simp (disch := first | assumption | omega) [lstp, lc_St_distance_1, lb_St_distance_1, lu_St_distance_1, j_meth, j_out, j_rok, j_pad, lg_sl, s_seq_w, isN_inl, isN_inr, s_if, jb, x_c, x_iloc, x_aloc, x_lloc, x_bin, x_un, o_add, o_sub, o_mul, o_and, o_or, o_xor, o_shl, o_shr, o_ushr, o_max, o_min, o_i2b, o_i2c, o_i2l, o_l2i, x_fld, j_fget, x_idx, j_aget, x_len, j_alen, x_ofb, x_ite, xs_nil, xs_cons, x_callv, x_calls, s_callv, s_calls, j_recv, j_ret, j_retv, b_cmp, b_and, b_or, b_not, b_ofi, b_ite, b_true, s_skip, s_set, j_ty, j_lset, j_kill, s_inc, s_fput, j_fput, s_fop, s_aput, j_aput, j_nar, s_aop, s_ret, s_retv, s_go, s_pop, x_linc, x_finc, Value.category, if_icmp.holds, List.flatMap_cons, List.flatMap_nil, List.length_cons, List.length_append, List.length_nil, List.set_cons_succ, List.set_cons_zero, List.getElem?_cons_succ, List.getElem?_cons_zero, List.replicate, ite_and', ite_or', ite_int', nI_leI, nI_ltI, nI_eq, nI_add, nI_1, pk_mul, nI_clamp, n_in', nI_pos', nI_pos, n_m1e, n_01, n_10, sT_1, sR_1_0, sR_1_1, sR_1_2, sR_1_3, sR_1_4, sR_1_5, sR_1_6, sR_1_7, sR_1_8, sR_1_9, sT_2, sT_3, sT_4, sT_5, sT_6, sT_7, sT_8, sT_9, sT_10, sT_11, sT_12, sT_13, sT_14, sR_2_1, sR_2_2, sR_2_3, sR_2_4, sR_2_5, sR_2_6, sR_2_7, sR_2_8, sR_2_9, sR_2_10, sR_2_11, sR_2_12, sT_15, sT_16, sT_17, sT_18, sT_19, sT_20, sT_21, sT_22, sT_23, sR_15_1, sR_15_2, sR_15_3, sR_15_4, sR_15_5, sR_15_6, sR_15_7, sR_15_8, sT_24, sT_25, sT_26, sT_27, sT_28, sT_29, sR_24_1, sR_24_2, sR_24_3, sR_24_4, sR_24_5, sT_71, sT_72, sR_71_0, sR_71_1, sR_71_2, sR_71_3, sR_71_4, sT_73, sT_74, sT_75, sR_73_0, sR_73_1, sR_73_2, sR_73_3, sR_73_4, sR_73_5, sT_84, sT_85, sT_86, sT_87, sR_84_0, sR_84_1, sR_84_2, sR_84_3, sR_84_4, sR_84_5, sT_88, sT_89, sR_88_0, sT_90, sT_91, sR_90_0, t77, k7, hi, g13, hiQ]
      · rw [ge]
        by_cases heQ : e ∈ Q
        · rw [if_pos heQ, BIn_found bi heQ, oI_s]
        · rw [if_neg heQ, BIn_none (by rw [← hiq]; exact bi) heN heQ, oI_n]
    by_cases heQ : e ∈ Q
    · right
      rw [if_pos heQ] at ge
      refine ⟨(.inl 0, ([.ref 77, .int x1, .int x2, .int (nI e), .int (nI i)], h1)), ?_, h1, nI i, rfl, f1, by rw [ge, BIn_found bi heQ, oI_s]⟩
      have hfe : far e < (sAllR A).length + 1 := by
        obtain ⟨a, ha, hae⟩ := mem_getD heQ
        have := bi.2.2.2.2.2.1 a ha
        rw [hae] at this
        omega
      have hne : (nI (far e) = -1) = False := n_m1e (by omega)
      clear bi db1 b1 f1 b sok db
      generalize far e = F at *
      generalize Q.length = LQ at *
      generalize (sAllR A).length = LL at *
      simp (disch := first | assumption | omega) [lstp, lc_St_distance_1, lb_St_distance_1, lu_St_distance_1, j_meth, j_out, j_rok, j_pad, lg_sl, s_seq_w, isN_inl, isN_inr, s_if, jb, x_c, x_iloc, x_aloc, x_lloc, x_bin, x_un, o_add, o_sub, o_mul, o_and, o_or, o_xor, o_shl, o_shr, o_ushr, o_max, o_min, o_i2b, o_i2c, o_i2l, o_l2i, x_fld, j_fget, x_idx, j_aget, x_len, j_alen, x_ofb, x_ite, xs_nil, xs_cons, x_callv, x_calls, s_callv, s_calls, j_recv, j_ret, j_retv, b_cmp, b_and, b_or, b_not, b_ofi, b_ite, b_true, s_skip, s_set, j_ty, j_lset, j_kill, s_inc, s_fput, j_fput, s_fop, s_aput, j_aput, j_nar, s_aop, s_ret, s_retv, s_go, s_pop, x_linc, x_finc, Value.category, if_icmp.holds, List.flatMap_cons, List.flatMap_nil, List.length_cons, List.length_append, List.length_nil, List.set_cons_succ, List.set_cons_zero, List.getElem?_cons_succ, List.getElem?_cons_zero, List.replicate, ite_and', ite_or', ite_int', nI_leI, nI_ltI, nI_eq, nI_add, nI_1, pk_mul, nI_clamp, n_in', nI_pos', nI_pos, n_m1e, n_01, n_10, sT_1, sR_1_0, sR_1_1, sR_1_2, sR_1_3, sR_1_4, sR_1_5, sR_1_6, sR_1_7, sR_1_8, sR_1_9, sT_2, sT_3, sT_4, sT_5, sT_6, sT_7, sT_8, sT_9, sT_10, sT_11, sT_12, sT_13, sT_14, sR_2_1, sR_2_2, sR_2_3, sR_2_4, sR_2_5, sR_2_6, sR_2_7, sR_2_8, sR_2_9, sR_2_10, sR_2_11, sR_2_12, sT_15, sT_16, sT_17, sT_18, sT_19, sT_20, sT_21, sT_22, sT_23, sR_15_1, sR_15_2, sR_15_3, sR_15_4, sR_15_5, sR_15_6, sR_15_7, sR_15_8, sT_24, sT_25, sT_26, sT_27, sT_28, sT_29, sR_24_1, sR_24_2, sR_24_3, sR_24_4, sR_24_5, sT_71, sT_72, sR_71_0, sR_71_1, sR_71_2, sR_71_3, sR_71_4, sT_73, sT_74, sT_75, sR_73_0, sR_73_1, sR_73_2, sR_73_3, sR_73_4, sR_73_5, sT_84, sT_85, sT_86, sT_87, sR_84_0, sR_84_1, sR_84_2, sR_84_3, sR_84_4, sR_84_5, sT_88, sT_89, sR_88_0, sT_90, sT_91, sR_90_0, t77, k7, hi, g13, hiQ, d1, d2, d3, hine, ge, hne]
    left
    rw [if_neg heQ] at ge
    -- the two ways from the next one of the queue
    have hatQ : Q.getD i 0 ∈ Q := getD_mem' hiQ
    have hatN := bi.2.1 _ hatQ
    have hfat : far (Q.getD i 0) ≤ i := bi.2.2.2.2.2.1 i hiQ
    have hfQ : ∀ j ∈ Q, far j < (sAllR A).length + 1 := fun j hj => by
      obtain ⟨a, ha, hae⟩ := mem_getD hj
      have := bi.2.2.2.2.2.1 a ha
      rw [hae] at this
      omega
    have gq := db1.2.1 i hiQ
    generalize hat : Q.getD i 0 = at' at *
    have hf' : ∀ j, (fun j => if j ∈ Q then far j else far at' + 1) j < 2 ^ 30 := fun j => by
      simp only
      split
      · have := hfQ j (by assumption); omega
      · omega
    have db1' : DB (sAllR A).length di qu Q (fun j => if j ∈ Q then far j else far at' + 1) h1 := ⟨fun j hj => by
      rw [db1.1 j hj]
      by_cases z : j ∈ Q
      · rw [if_pos z, if_pos z, if_pos z]
      · rw [if_neg z, if_neg z], db1.2.1, db1.2.2⟩
    obtain ⟨h2, ns1, e2, f2, db2, nd2, n21, n22⟩ := e_St_reachNext w b1 sok db1' bi.1 bi.2.1 (d := far at') (by omega) hf' hatN hatQ (by simp only [if_pos hatQ]) (fun j hj => by simp only [if_neg hj]) true
    have b2 := BC_fr b1 f2
    have hs2 := b2.1
    obtain ⟨h3, ns2, e3, f3, db3, nd3, n31, n32⟩ := e_St_reachNext w b2 sok db2 nd2 (fun j hj => by
      rcases List.mem_append.mp hj with z | z
      · exact bi.2.1 j z
      · exact (n21 j z).1) (d := far at') (by omega) hf' hatN (List.mem_append.mpr (Or.inl hatQ)) (by simp only [if_pos hatQ]) (fun j hj => by simp only [if_neg (fun z => hj (List.mem_append.mpr (Or.inl z)))]) false
    have b3 := BC_fr b2 f3
    have hs3 := b3.1
    have hap : Q ++ ns1 ++ ns2 = Q ++ (ns1 ++ ns2) := List.append_assoc _ _ _
    rw [hap] at db3 nd3 n32
    have nd3' := List.nodup_append.mp nd3
    have bi' := BIn_step bi hiQ (ns := ns1 ++ ns2) nd3'.2.1 (fun j hj => by
      rw [hat]
      have hjQ : j ∉ Q := fun z => nd3'.2.2 j z j hj rfl
      rcases List.mem_append.mp hj with z | z
      · exact ⟨(n21 j z).1, hjQ, (nx_acc w sok hatN (n21 j z).1).mpr (Or.inl (n21 j z).2)⟩
      · exact ⟨(n31 j z).1, hjQ, (nx_acc w sok hatN (n31 j z).1).mpr (Or.inr (n31 j z).2)⟩) (fun j hj hx => by
      rw [hat] at hx
      rcases (nx_acc w sok hatN hj).mp hx with z | z
      · rcases n22 j hj z with y | y
        · exact Or.inl y
        · exact Or.inr (List.mem_append.mpr (Or.inl y))
      · rcases n32 j hj z with y | y
        · rcases List.mem_append.mp y with y | y
          · exact Or.inl y
          · exact Or.inr (List.mem_append.mpr (Or.inl y))
        · exact Or.inr (List.mem_append.mpr (Or.inr y)))
    rw [hat] at bi'
    refine ⟨([.ref 77, .int x1, .int x2, .int (nI e), .int (nI (i + 1))], h3), ?_, h3, _, _, rfl, Fr_trans f1 (Fr_trans f2 f3), bi', db3⟩
    have gq2 : hI h2 qu i = nI at' := by
      have := db2.2.1 i (by rw [List.length_append]; omega)
      rw [List.getD_eq_getElem?_getD, List.getElem?_append_left hiQ, ← List.getD_eq_getElem?_getD, hat] at this
      exact this
    obtain ⟨q1', q2', q3'⟩ := b2.2.2.2.2.1
    have t2 := sT_77 hs2
    have hini : j_in (nI i) rl = true := n_in' (by omega) (by omega)
    have h11 : nI 1 = 1 := rfl
    simp only [if_true] at e2
    simp only [Bool.false_eq_true, if_false] at e3
    clear bi bi' db1 db1' db2 db3 b1 b2 b3 f1 f2 f3 b sok db n21 n22 n31 n32 nd2 nd3 nd3' hfQ hf' hap hat hatQ
    generalize Q.length = LQ at *
    generalize (sAllR A).length = LL at *
    simp (disch := first | assumption | omega) [lstp, lc_St_distance_1, lb_St_distance_1, lu_St_distance_1, j_meth, j_out, j_rok, j_pad, lg_sl, s_seq_w, isN_inl, isN_inr, s_if, jb, x_c, x_iloc, x_aloc, x_lloc, x_bin, x_un, o_add, o_sub, o_mul, o_and, o_or, o_xor, o_shl, o_shr, o_ushr, o_max, o_min, o_i2b, o_i2c, o_i2l, o_l2i, x_fld, j_fget, x_idx, j_aget, x_len, j_alen, x_ofb, x_ite, xs_nil, xs_cons, x_callv, x_calls, s_callv, s_calls, j_recv, j_ret, j_retv, b_cmp, b_and, b_or, b_not, b_ofi, b_ite, b_true, s_skip, s_set, j_ty, j_lset, j_kill, s_inc, s_fput, j_fput, s_fop, s_aput, j_aput, j_nar, s_aop, s_ret, s_retv, s_go, s_pop, x_linc, x_finc, Value.category, if_icmp.holds, List.flatMap_cons, List.flatMap_nil, List.length_cons, List.length_append, List.length_nil, List.set_cons_succ, List.set_cons_zero, List.getElem?_cons_succ, List.getElem?_cons_zero, List.replicate, ite_and', ite_or', ite_int', nI_leI, nI_ltI, nI_eq, nI_add, nI_1, pk_mul, nI_clamp, n_in', nI_pos', nI_pos, n_m1e, n_01, n_10, sT_1, sR_1_0, sR_1_1, sR_1_2, sR_1_3, sR_1_4, sR_1_5, sR_1_6, sR_1_7, sR_1_8, sR_1_9, sT_2, sT_3, sT_4, sT_5, sT_6, sT_7, sT_8, sT_9, sT_10, sT_11, sT_12, sT_13, sT_14, sR_2_1, sR_2_2, sR_2_3, sR_2_4, sR_2_5, sR_2_6, sR_2_7, sR_2_8, sR_2_9, sR_2_10, sR_2_11, sR_2_12, sT_15, sT_16, sT_17, sT_18, sT_19, sT_20, sT_21, sT_22, sT_23, sR_15_1, sR_15_2, sR_15_3, sR_15_4, sR_15_5, sR_15_6, sR_15_7, sR_15_8, sT_24, sT_25, sT_26, sT_27, sT_28, sT_29, sR_24_1, sR_24_2, sR_24_3, sR_24_4, sR_24_5, sT_71, sT_72, sR_71_0, sR_71_1, sR_71_2, sR_71_3, sR_71_4, sT_73, sT_74, sT_75, sR_73_0, sR_73_1, sR_73_2, sR_73_3, sR_73_4, sR_73_5, sT_84, sT_85, sT_86, sT_87, sR_84_0, sR_84_1, sR_84_2, sR_84_3, sR_84_4, sR_84_5, sT_88, sT_89, sR_88_0, sT_90, sT_91, sR_90_0, t77, k7, hi, g13, hiQ, d1, d2, d3, hine, ge, q1, q2, q3, hini, gq, h11, e2, t2, q1', q2', gq2, nI_0, e3]
  · rintro st ⟨h1, Q, far, rfl, f1, bi, db1⟩
    have b1 := BC_fr b f1
    have hs1 := b1.1
    have k7 := b1.2.2.2.2.2.2.1
    have t77 := sT_77 hs1
    have ge := db1.1 e heN
    have hQl : Q.length ≤ (sAllR A).length := nd_le bi.1 bi.2.1
    have hiq : (sAllR A).length = Q.length := by have := bi.2.2.2.2.2.2.2.2; omega
    refine ⟨(.inl 0, ([.ref 77, .int x1, .int x2, .int (nI e), .int (nI (sAllR A).length)], h1)), ?_, h1, _, rfl, f1, ?_⟩
    · clear bi db1 b1 f1 b sok db ge
      generalize (sAllR A).length = LL at *
      simp (disch := first | assumption | omega) [lstp, lc_St_distance_1, lb_St_distance_1, lu_St_distance_1, j_meth, j_out, j_rok, j_pad, lg_sl, s_seq_w, isN_inl, isN_inr, s_if, jb, x_c, x_iloc, x_aloc, x_lloc, x_bin, x_un, o_add, o_sub, o_mul, o_and, o_or, o_xor, o_shl, o_shr, o_ushr, o_max, o_min, o_i2b, o_i2c, o_i2l, o_l2i, x_fld, j_fget, x_idx, j_aget, x_len, j_alen, x_ofb, x_ite, xs_nil, xs_cons, x_callv, x_calls, s_callv, s_calls, j_recv, j_ret, j_retv, b_cmp, b_and, b_or, b_not, b_ofi, b_ite, b_true, s_skip, s_set, j_ty, j_lset, j_kill, s_inc, s_fput, j_fput, s_fop, s_aput, j_aput, j_nar, s_aop, s_ret, s_retv, s_go, s_pop, x_linc, x_finc, Value.category, if_icmp.holds, List.flatMap_cons, List.flatMap_nil, List.length_cons, List.length_append, List.length_nil, List.set_cons_succ, List.set_cons_zero, List.getElem?_cons_succ, List.getElem?_cons_zero, List.replicate, ite_and', ite_or', ite_int', nI_leI, nI_ltI, nI_eq, nI_add, nI_1, pk_mul, nI_clamp, n_in', nI_pos', nI_pos, n_m1e, n_01, n_10, sT_1, sR_1_0, sR_1_1, sR_1_2, sR_1_3, sR_1_4, sR_1_5, sR_1_6, sR_1_7, sR_1_8, sR_1_9, sT_2, sT_3, sT_4, sT_5, sT_6, sT_7, sT_8, sT_9, sT_10, sT_11, sT_12, sT_13, sT_14, sR_2_1, sR_2_2, sR_2_3, sR_2_4, sR_2_5, sR_2_6, sR_2_7, sR_2_8, sR_2_9, sR_2_10, sR_2_11, sR_2_12, sT_15, sT_16, sT_17, sT_18, sT_19, sT_20, sT_21, sT_22, sT_23, sR_15_1, sR_15_2, sR_15_3, sR_15_4, sR_15_5, sR_15_6, sR_15_7, sR_15_8, sT_24, sT_25, sT_26, sT_27, sT_28, sT_29, sR_24_1, sR_24_2, sR_24_3, sR_24_4, sR_24_5, sT_71, sT_72, sR_71_0, sR_71_1, sR_71_2, sR_71_3, sR_71_4, sT_73, sT_74, sT_75, sR_73_0, sR_73_1, sR_73_2, sR_73_3, sR_73_4, sR_73_5, sT_84, sT_85, sT_86, sT_87, sR_84_0, sR_84_1, sR_84_2, sR_84_3, sR_84_4, sR_84_5, sT_88, sT_89, sR_88_0, sT_90, sT_91, sR_90_0, t77, k7]
    · rw [ge]
      by_cases heQ : e ∈ Q
      · rw [if_pos heQ, BIn_found bi heQ, oI_s]
      · rw [if_neg heQ, BIn_none (by rw [hiq] at bi; rw [hiq]; exact bi) heN heQ, oI_n]
