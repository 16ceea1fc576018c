/-! steps -/
theorem e_St_placeOf {A : AS} {σ : Nat → Nat} {ra rl so di qu co : Nat} {h : jHp} (b : BC A σ ra rl so di qu co h) (s1 : ∀ i, i < (sAllR A).length → σ i < (sAllR A).length) (s2 : ∀ i j, i < (sAllR A).length → j < (sAllR A).length → σ i = σ j → i = j) {k : Nat} (hk : k < (sAllR A).length) : ∃ i, i < (sAllR A).length ∧ σ i = k ∧ f_St_placeOf [.ref 77, .int (nI k)] h = some (some (.int (nI i)), h) := by
  obtain ⟨hs, ⟨-, -, -, hNr, hrl, -⟩, ⟨c1, c2, c3⟩, -, -, -, k7, g, -⟩ := b
  obtain ⟨i, hi, e⟩ := inj_sur s1 s2 hk
  have t77 := sT_77 hs
  have hL := loop_1 (lb := 1) (lc := 2) (c := lc_St_placeOf_1) (b := lb_St_placeOf_1) (u := lu_St_placeOf_1) (sAllR A).length (fun a => (([.ref 77, .int (nI k), .int (nI a)], h) : jS)) (fun a => σ a == k)
    (fun a => (.inr (some (.int (nI a))), ([.ref 77, .int (nI k), .int (nI a)], h)))
    (fun a ha hp => by
      have gi := g a ha
      have hin : j_in (nI a) rl = true := n_in' (by omega) (by omega)
      simp only [beq_iff_eq] at hp
      rw [hp] at gi
      clear g
      generalize (sAllR A).length = LL at *
      simp (disch := first | assumption | omega) [lstp, lc_St_placeOf_1, lb_St_placeOf_1, lu_St_placeOf_1, j_meth, j_out, j_rok, j_pad, lg_sl, s_seq_w, isN_inl, isN_inr, s_if, jb, x_c, x_iloc, x_aloc, x_lloc, x_bin, x_un, o_add, o_sub, o_mul, o_and, o_or, o_xor, o_shl, o_shr, o_ushr, o_max, o_min, o_i2b, o_i2c, o_i2l, o_l2i, x_fld, j_fget, x_idx, j_aget, x_len, j_alen, x_ofb, x_ite, xs_nil, xs_cons, x_callv, x_calls, s_callv, s_calls, j_recv, j_ret, j_retv, b_cmp, b_and, b_or, b_not, b_ofi, b_ite, b_true, s_skip, s_set, j_ty, j_lset, j_kill, s_inc, s_fput, j_fput, s_fop, s_aput, j_aput, j_nar, s_aop, s_ret, s_retv, s_go, s_pop, x_linc, x_finc, Value.category, if_icmp.holds, List.flatMap_cons, List.flatMap_nil, List.length_cons, List.length_append, List.length_nil, List.set_cons_succ, List.set_cons_zero, List.getElem?_cons_succ, List.getElem?_cons_zero, List.replicate, ite_and', ite_or', ite_int', nI_leI, nI_ltI, nI_eq, nI_add, nI_1, pk_mul, nI_clamp, n_in', nI_pos', nI_pos, n_m1e, n_01, n_10, sT_1, sR_1_0, sR_1_1, sR_1_2, sR_1_3, sR_1_4, sR_1_5, sR_1_6, sR_1_7, sR_1_8, sR_1_9, sT_2, sT_3, sT_4, sT_5, sT_6, sT_7, sT_8, sT_9, sT_10, sT_11, sT_12, sT_13, sT_14, sR_2_1, sR_2_2, sR_2_3, sR_2_4, sR_2_5, sR_2_6, sR_2_7, sR_2_8, sR_2_9, sR_2_10, sR_2_11, sR_2_12, sT_15, sT_16, sT_17, sT_18, sT_19, sT_20, sT_21, sT_22, sT_23, sR_15_1, sR_15_2, sR_15_3, sR_15_4, sR_15_5, sR_15_6, sR_15_7, sR_15_8, sT_24, sT_25, sT_26, sT_27, sT_28, sT_29, sR_24_1, sR_24_2, sR_24_3, sR_24_4, sR_24_5, sT_71, sT_72, sR_71_0, sR_71_1, sR_71_2, sR_71_3, sR_71_4, sT_73, sT_74, sT_75, sR_73_0, sR_73_1, sR_73_2, sR_73_3, sR_73_4, sR_73_5, sT_84, sT_85, sT_86, sT_87, sR_84_0, sR_84_1, sR_84_2, sR_84_3, sR_84_4, sR_84_5, sT_88, sT_89, sR_88_0, sT_90, sT_91, sR_90_0, t77, k7, ha, c1, c2, c3, hin, gi])
    (fun a ha hp => by
      have gi := g a ha
      have hsl := s1 a ha
      have hin : j_in (nI a) rl = true := n_in' (by omega) (by omega)
      simp only [beq_eq_false_iff_ne] at hp
      have hne : (nI (σ a) = nI k) = False := eq_false fun e => hp ((n_eq (by omega) (by omega)).mp e)
      clear g s1 s2
      generalize σ a = V at *
      generalize (sAllR A).length = LL at *
      simp (disch := first | assumption | omega) [lstp, lc_St_placeOf_1, lb_St_placeOf_1, lu_St_placeOf_1, j_meth, j_out, j_rok, j_pad, lg_sl, s_seq_w, isN_inl, isN_inr, s_if, jb, x_c, x_iloc, x_aloc, x_lloc, x_bin, x_un, o_add, o_sub, o_mul, o_and, o_or, o_xor, o_shl, o_shr, o_ushr, o_max, o_min, o_i2b, o_i2c, o_i2l, o_l2i, x_fld, j_fget, x_idx, j_aget, x_len, j_alen, x_ofb, x_ite, xs_nil, xs_cons, x_callv, x_calls, s_callv, s_calls, j_recv, j_ret, j_retv, b_cmp, b_and, b_or, b_not, b_ofi, b_ite, b_true, s_skip, s_set, j_ty, j_lset, j_kill, s_inc, s_fput, j_fput, s_fop, s_aput, j_aput, j_nar, s_aop, s_ret, s_retv, s_go, s_pop, x_linc, x_finc, Value.category, if_icmp.holds, List.flatMap_cons, List.flatMap_nil, List.length_cons, List.length_append, List.length_nil, List.set_cons_succ, List.set_cons_zero, List.getElem?_cons_succ, List.getElem?_cons_zero, List.replicate, ite_and', ite_or', ite_int', nI_leI, nI_ltI, nI_eq, nI_add, nI_1, pk_mul, nI_clamp, n_in', nI_pos', nI_pos, n_m1e, n_01, n_10, sT_1, sR_1_0, sR_1_1, sR_1_2, sR_1_3, sR_1_4, sR_1_5, sR_1_6, sR_1_7, sR_1_8, sR_1_9, sT_2, sT_3, sT_4, sT_5, sT_6, sT_7, sT_8, sT_9, sT_10, sT_11, sT_12, sT_13, sT_14, sR_2_1, sR_2_2, sR_2_3, sR_2_4, sR_2_5, sR_2_6, sR_2_7, sR_2_8, sR_2_9, sR_2_10, sR_2_11, sR_2_12, sT_15, sT_16, sT_17, sT_18, sT_19, sT_20, sT_21, sT_22, sT_23, sR_15_1, sR_15_2, sR_15_3, sR_15_4, sR_15_5, sR_15_6, sR_15_7, sR_15_8, sT_24, sT_25, sT_26, sT_27, sT_28, sT_29, sR_24_1, sR_24_2, sR_24_3, sR_24_4, sR_24_5, sT_71, sT_72, sR_71_0, sR_71_1, sR_71_2, sR_71_3, sR_71_4, sT_73, sT_74, sT_75, sR_73_0, sR_73_1, sR_73_2, sR_73_3, sR_73_4, sR_73_5, sT_84, sT_85, sT_86, sT_87, sR_84_0, sR_84_1, sR_84_2, sR_84_3, sR_84_4, sR_84_5, sT_88, sT_89, sR_88_0, sT_90, sT_91, sR_90_0, t77, k7, ha, c1, c2, c3, hin, gi, hne])
    (by
      clear g s1 s2
      generalize (sAllR A).length = LL at *
      simp (disch := first | assumption | omega) [lstp, lc_St_placeOf_1, lb_St_placeOf_1, lu_St_placeOf_1, j_meth, j_out, j_rok, j_pad, lg_sl, s_seq_w, isN_inl, isN_inr, s_if, jb, x_c, x_iloc, x_aloc, x_lloc, x_bin, x_un, o_add, o_sub, o_mul, o_and, o_or, o_xor, o_shl, o_shr, o_ushr, o_max, o_min, o_i2b, o_i2c, o_i2l, o_l2i, x_fld, j_fget, x_idx, j_aget, x_len, j_alen, x_ofb, x_ite, xs_nil, xs_cons, x_callv, x_calls, s_callv, s_calls, j_recv, j_ret, j_retv, b_cmp, b_and, b_or, b_not, b_ofi, b_ite, b_true, s_skip, s_set, j_ty, j_lset, j_kill, s_inc, s_fput, j_fput, s_fop, s_aput, j_aput, j_nar, s_aop, s_ret, s_retv, s_go, s_pop, x_linc, x_finc, Value.category, if_icmp.holds, List.flatMap_cons, List.flatMap_nil, List.length_cons, List.length_append, List.length_nil, List.set_cons_succ, List.set_cons_zero, List.getElem?_cons_succ, List.getElem?_cons_zero, List.replicate, ite_and', ite_or', ite_int', nI_leI, nI_ltI, nI_eq, nI_add, nI_1, pk_mul, nI_clamp, n_in', nI_pos', nI_pos, n_m1e, n_01, n_10, sT_1, sR_1_0, sR_1_1, sR_1_2, sR_1_3, sR_1_4, sR_1_5, sR_1_6, sR_1_7, sR_1_8, sR_1_9, sT_2, sT_3, sT_4, sT_5, sT_6, sT_7, sT_8, sT_9, sT_10, sT_11, sT_12, sT_13, sT_14, sR_2_1, sR_2_2, sR_2_3, sR_2_4, sR_2_5, sR_2_6, sR_2_7, sR_2_8, sR_2_9, sR_2_10, sR_2_11, sR_2_12, sT_15, sT_16, sT_17, sT_18, sT_19, sT_20, sT_21, sT_22, sT_23, sR_15_1, sR_15_2, sR_15_3, sR_15_4, sR_15_5, sR_15_6, sR_15_7, sR_15_8, sT_24, sT_25, sT_26, sT_27, sT_28, sT_29, sR_24_1, sR_24_2, sR_24_3, sR_24_4, sR_24_5, sT_71, sT_72, sR_71_0, sR_71_1, sR_71_2, sR_71_3, sR_71_4, sT_73, sT_74, sT_75, sR_73_0, sR_73_1, sR_73_2, sR_73_3, sR_73_4, sR_73_5, sT_84, sT_85, sT_86, sT_87, sR_84_0, sR_84_1, sR_84_2, sR_84_3, sR_84_4, sR_84_5, sT_88, sT_89, sR_88_0, sT_90, sT_91, sR_90_0, t77, k7])
  have hf : fst1 (fun a => σ a == k) (sAllR A).length = some i := fst1_of hi (by simpa using e) fun m hm => by
    simp only [beq_eq_false_iff_ne]
    intro q
    have := s2 m i (by omega) hi (by rw [q, e])
    omega
  rw [hf] at hL
  simp only [nI_0] at hL
  refine ⟨i, hi, e, ?_⟩
  simp (disch := first | assumption | omega) [f_St_placeOf, body_St_placeOf, j_meth, j_out, j_rok, j_pad, lg_sl, s_seq_w, isN_inl, isN_inr, s_if, jb, x_c, x_iloc, x_aloc, x_lloc, x_bin, x_un, o_add, o_sub, o_mul, o_and, o_or, o_xor, o_shl, o_shr, o_ushr, o_max, o_min, o_i2b, o_i2c, o_i2l, o_l2i, x_fld, j_fget, x_idx, j_aget, x_len, j_alen, x_ofb, x_ite, xs_nil, xs_cons, x_callv, x_calls, s_callv, s_calls, j_recv, j_ret, j_retv, b_cmp, b_and, b_or, b_not, b_ofi, b_ite, b_true, s_skip, s_set, j_ty, j_lset, j_kill, s_inc, s_fput, j_fput, s_fop, s_aput, j_aput, j_nar, s_aop, s_ret, s_retv, s_go, s_pop, x_linc, x_finc, Value.category, if_icmp.holds, List.flatMap_cons, List.flatMap_nil, List.length_cons, List.length_append, List.length_nil, List.set_cons_succ, List.set_cons_zero, List.getElem?_cons_succ, List.getElem?_cons_zero, List.replicate, ite_and', ite_or', ite_int', nI_leI, nI_ltI, nI_eq, nI_add, nI_1, pk_mul, nI_clamp, n_in', nI_pos', nI_pos, n_m1e, n_01, n_10, sT_1, sR_1_0, sR_1_1, sR_1_2, sR_1_3, sR_1_4, sR_1_5, sR_1_6, sR_1_7, sR_1_8, sR_1_9, sT_2, sT_3, sT_4, sT_5, sT_6, sT_7, sT_8, sT_9, sT_10, sT_11, sT_12, sT_13, sT_14, sR_2_1, sR_2_2, sR_2_3, sR_2_4, sR_2_5, sR_2_6, sR_2_7, sR_2_8, sR_2_9, sR_2_10, sR_2_11, sR_2_12, sT_15, sT_16, sT_17, sT_18, sT_19, sT_20, sT_21, sT_22, sT_23, sR_15_1, sR_15_2, sR_15_3, sR_15_4, sR_15_5, sR_15_6, sR_15_7, sR_15_8, sT_24, sT_25, sT_26, sT_27, sT_28, sT_29, sR_24_1, sR_24_2, sR_24_3, sR_24_4, sR_24_5, sT_71, sT_72, sR_71_0, sR_71_1, sR_71_2, sR_71_3, sR_71_4, sT_73, sT_74, sT_75, sR_73_0, sR_73_1, sR_73_2, sR_73_3, sR_73_4, sR_73_5, sT_84, sT_85, sT_86, sT_87, sR_84_0, sR_84_1, sR_84_2, sR_84_3, sR_84_4, sR_84_5, sT_88, sT_89, sR_88_0, sT_90, sT_91, sR_90_0, nI_0, hL]
theorem e_St_indexOf {A : AS} {fa fl : Nat} {h : jHp} (hs : Shape h) (w : WF A) (k : KF A fa fl h) (x : Int32) : f_St_indexOf [.ref 77, .int x] h = some (some (.int (oI (fst1 (fun i => decide (nI ((sAllR A).getD i 0) = x)) (sAllR A).length))), h) := by
  have hlen := sAllR_len w
  obtain ⟨⟨k1, k2, k3, -⟩, k5, k6, k7, k8⟩ := k
  have t77 := sT_77 hs
  have hL := loop_1 (lb := 1) (lc := 2) (c := lc_St_indexOf_1) (b := lb_St_indexOf_1) (u := lu_St_indexOf_1) (sAllR A).length (fun a => (([.ref 77, .int x, .int (nI a)], h) : jS)) (fun i => decide (nI ((sAllR A).getD i 0) = x))
    (fun a => (.inr (some (.int (nI a))), ([.ref 77, .int x, .int (nI a)], h)))
    (fun a ha hp => by
      have gi := k8 a ha
      have hin : j_in (nI a) fl = true := n_in' (by omega) (by omega)
      rw [decide_eq_true_eq] at hp
      rw [hp] at gi
      clear k8
      generalize (sAllR A).length = LL at *
      simp (disch := first | assumption | omega) [lstp, lc_St_indexOf_1, lb_St_indexOf_1, lu_St_indexOf_1, j_meth, j_out, j_rok, j_pad, lg_sl, s_seq_w, isN_inl, isN_inr, s_if, jb, x_c, x_iloc, x_aloc, x_lloc, x_bin, x_un, o_add, o_sub, o_mul, o_and, o_or, o_xor, o_shl, o_shr, o_ushr, o_max, o_min, o_i2b, o_i2c, o_i2l, o_l2i, x_fld, j_fget, x_idx, j_aget, x_len, j_alen, x_ofb, x_ite, xs_nil, xs_cons, x_callv, x_calls, s_callv, s_calls, j_recv, j_ret, j_retv, b_cmp, b_and, b_or, b_not, b_ofi, b_ite, b_true, s_skip, s_set, j_ty, j_lset, j_kill, s_inc, s_fput, j_fput, s_fop, s_aput, j_aput, j_nar, s_aop, s_ret, s_retv, s_go, s_pop, x_linc, x_finc, Value.category, if_icmp.holds, List.flatMap_cons, List.flatMap_nil, List.length_cons, List.length_append, List.length_nil, List.set_cons_succ, List.set_cons_zero, List.getElem?_cons_succ, List.getElem?_cons_zero, List.replicate, ite_and', ite_or', ite_int', nI_leI, nI_ltI, nI_eq, nI_add, nI_1, pk_mul, nI_clamp, n_in', nI_pos', nI_pos, n_m1e, n_01, n_10, sT_1, sR_1_0, sR_1_1, sR_1_2, sR_1_3, sR_1_4, sR_1_5, sR_1_6, sR_1_7, sR_1_8, sR_1_9, sT_2, sT_3, sT_4, sT_5, sT_6, sT_7, sT_8, sT_9, sT_10, sT_11, sT_12, sT_13, sT_14, sR_2_1, sR_2_2, sR_2_3, sR_2_4, sR_2_5, sR_2_6, sR_2_7, sR_2_8, sR_2_9, sR_2_10, sR_2_11, sR_2_12, sT_15, sT_16, sT_17, sT_18, sT_19, sT_20, sT_21, sT_22, sT_23, sR_15_1, sR_15_2, sR_15_3, sR_15_4, sR_15_5, sR_15_6, sR_15_7, sR_15_8, sT_24, sT_25, sT_26, sT_27, sT_28, sT_29, sR_24_1, sR_24_2, sR_24_3, sR_24_4, sR_24_5, sT_71, sT_72, sR_71_0, sR_71_1, sR_71_2, sR_71_3, sR_71_4, sT_73, sT_74, sT_75, sR_73_0, sR_73_1, sR_73_2, sR_73_3, sR_73_4, sR_73_5, sT_84, sT_85, sT_86, sT_87, sR_84_0, sR_84_1, sR_84_2, sR_84_3, sR_84_4, sR_84_5, sT_88, sT_89, sR_88_0, sT_90, sT_91, sR_90_0, t77, k5, ha, k1, k2, k3, hin, gi])
    (fun a ha hp => by
      have gi := k8 a ha
      have hin : j_in (nI a) fl = true := n_in' (by omega) (by omega)
      rw [decide_eq_false_iff_not] at hp
      clear k8
      generalize nI ((sAllR A).getD a 0) = V at *
      generalize (sAllR A).length = LL at *
      simp (disch := first | assumption | omega) [lstp, lc_St_indexOf_1, lb_St_indexOf_1, lu_St_indexOf_1, j_meth, j_out, j_rok, j_pad, lg_sl, s_seq_w, isN_inl, isN_inr, s_if, jb, x_c, x_iloc, x_aloc, x_lloc, x_bin, x_un, o_add, o_sub, o_mul, o_and, o_or, o_xor, o_shl, o_shr, o_ushr, o_max, o_min, o_i2b, o_i2c, o_i2l, o_l2i, x_fld, j_fget, x_idx, j_aget, x_len, j_alen, x_ofb, x_ite, xs_nil, xs_cons, x_callv, x_calls, s_callv, s_calls, j_recv, j_ret, j_retv, b_cmp, b_and, b_or, b_not, b_ofi, b_ite, b_true, s_skip, s_set, j_ty, j_lset, j_kill, s_inc, s_fput, j_fput, s_fop, s_aput, j_aput, j_nar, s_aop, s_ret, s_retv, s_go, s_pop, x_linc, x_finc, Value.category, if_icmp.holds, List.flatMap_cons, List.flatMap_nil, List.length_cons, List.length_append, List.length_nil, List.set_cons_succ, List.set_cons_zero, List.getElem?_cons_succ, List.getElem?_cons_zero, List.replicate, ite_and', ite_or', ite_int', nI_leI, nI_ltI, nI_eq, nI_add, nI_1, pk_mul, nI_clamp, n_in', nI_pos', nI_pos, n_m1e, n_01, n_10, sT_1, sR_1_0, sR_1_1, sR_1_2, sR_1_3, sR_1_4, sR_1_5, sR_1_6, sR_1_7, sR_1_8, sR_1_9, sT_2, sT_3, sT_4, sT_5, sT_6, sT_7, sT_8, sT_9, sT_10, sT_11, sT_12, sT_13, sT_14, sR_2_1, sR_2_2, sR_2_3, sR_2_4, sR_2_5, sR_2_6, sR_2_7, sR_2_8, sR_2_9, sR_2_10, sR_2_11, sR_2_12, sT_15, sT_16, sT_17, sT_18, sT_19, sT_20, sT_21, sT_22, sT_23, sR_15_1, sR_15_2, sR_15_3, sR_15_4, sR_15_5, sR_15_6, sR_15_7, sR_15_8, sT_24, sT_25, sT_26, sT_27, sT_28, sT_29, sR_24_1, sR_24_2, sR_24_3, sR_24_4, sR_24_5, sT_71, sT_72, sR_71_0, sR_71_1, sR_71_2, sR_71_3, sR_71_4, sT_73, sT_74, sT_75, sR_73_0, sR_73_1, sR_73_2, sR_73_3, sR_73_4, sR_73_5, sT_84, sT_85, sT_86, sT_87, sR_84_0, sR_84_1, sR_84_2, sR_84_3, sR_84_4, sR_84_5, sT_88, sT_89, sR_88_0, sT_90, sT_91, sR_90_0, t77, k5, ha, k1, k2, k3, hin, gi, hp])
    (by
      clear k8
      generalize (sAllR A).length = LL at *
      simp (disch := first | assumption | omega) [lstp, lc_St_indexOf_1, lb_St_indexOf_1, lu_St_indexOf_1, j_meth, j_out, j_rok, j_pad, lg_sl, s_seq_w, isN_inl, isN_inr, s_if, jb, x_c, x_iloc, x_aloc, x_lloc, x_bin, x_un, o_add, o_sub, o_mul, o_and, o_or, o_xor, o_shl, o_shr, o_ushr, o_max, o_min, o_i2b, o_i2c, o_i2l, o_l2i, x_fld, j_fget, x_idx, j_aget, x_len, j_alen, x_ofb, x_ite, xs_nil, xs_cons, x_callv, x_calls, s_callv, s_calls, j_recv, j_ret, j_retv, b_cmp, b_and, b_or, b_not, b_ofi, b_ite, b_true, s_skip, s_set, j_ty, j_lset, j_kill, s_inc, s_fput, j_fput, s_fop, s_aput, j_aput, j_nar, s_aop, s_ret, s_retv, s_go, s_pop, x_linc, x_finc, Value.category, if_icmp.holds, List.flatMap_cons, List.flatMap_nil, List.length_cons, List.length_append, List.length_nil, List.set_cons_succ, List.set_cons_zero, List.getElem?_cons_succ, List.getElem?_cons_zero, List.replicate, ite_and', ite_or', ite_int', nI_leI, nI_ltI, nI_eq, nI_add, nI_1, pk_mul, nI_clamp, n_in', nI_pos', nI_pos, n_m1e, n_01, n_10, sT_1, sR_1_0, sR_1_1, sR_1_2, sR_1_3, sR_1_4, sR_1_5, sR_1_6, sR_1_7, sR_1_8, sR_1_9, sT_2, sT_3, sT_4, sT_5, sT_6, sT_7, sT_8, sT_9, sT_10, sT_11, sT_12, sT_13, sT_14, sR_2_1, sR_2_2, sR_2_3, sR_2_4, sR_2_5, sR_2_6, sR_2_7, sR_2_8, sR_2_9, sR_2_10, sR_2_11, sR_2_12, sT_15, sT_16, sT_17, sT_18, sT_19, sT_20, sT_21, sT_22, sT_23, sR_15_1, sR_15_2, sR_15_3, sR_15_4, sR_15_5, sR_15_6, sR_15_7, sR_15_8, sT_24, sT_25, sT_26, sT_27, sT_28, sT_29, sR_24_1, sR_24_2, sR_24_3, sR_24_4, sR_24_5, sT_71, sT_72, sR_71_0, sR_71_1, sR_71_2, sR_71_3, sR_71_4, sT_73, sT_74, sT_75, sR_73_0, sR_73_1, sR_73_2, sR_73_3, sR_73_4, sR_73_5, sT_84, sT_85, sT_86, sT_87, sR_84_0, sR_84_1, sR_84_2, sR_84_3, sR_84_4, sR_84_5, sT_88, sT_89, sR_88_0, sT_90, sT_91, sR_90_0, t77, k5])
  clear k8
  cases hq : fst1 (fun i => decide (nI ((sAllR A).getD i 0) = x)) (sAllR A).length with
  | none =>
    rw [hq] at hL
    simp only [nI_0] at hL
    rw [oI_n]
    generalize (sAllR A).length = LL at *
    simp (disch := first | assumption | omega) [f_St_indexOf, body_St_indexOf, j_meth, j_out, j_rok, j_pad, lg_sl, s_seq_w, isN_inl, isN_inr, s_if, jb, x_c, x_iloc, x_aloc, x_lloc, x_bin, x_un, o_add, o_sub, o_mul, o_and, o_or, o_xor, o_shl, o_shr, o_ushr, o_max, o_min, o_i2b, o_i2c, o_i2l, o_l2i, x_fld, j_fget, x_idx, j_aget, x_len, j_alen, x_ofb, x_ite, xs_nil, xs_cons, x_callv, x_calls, s_callv, s_calls, j_recv, j_ret, j_retv, b_cmp, b_and, b_or, b_not, b_ofi, b_ite, b_true, s_skip, s_set, j_ty, j_lset, j_kill, s_inc, s_fput, j_fput, s_fop, s_aput, j_aput, j_nar, s_aop, s_ret, s_retv, s_go, s_pop, x_linc, x_finc, Value.category, if_icmp.holds, List.flatMap_cons, List.flatMap_nil, List.length_cons, List.length_append, List.length_nil, List.set_cons_succ, List.set_cons_zero, List.getElem?_cons_succ, List.getElem?_cons_zero, List.replicate, ite_and', ite_or', ite_int', nI_leI, nI_ltI, nI_eq, nI_add, nI_1, pk_mul, nI_clamp, n_in', nI_pos', nI_pos, n_m1e, n_01, n_10, sT_1, sR_1_0, sR_1_1, sR_1_2, sR_1_3, sR_1_4, sR_1_5, sR_1_6, sR_1_7, sR_1_8, sR_1_9, sT_2, sT_3, sT_4, sT_5, sT_6, sT_7, sT_8, sT_9, sT_10, sT_11, sT_12, sT_13, sT_14, sR_2_1, sR_2_2, sR_2_3, sR_2_4, sR_2_5, sR_2_6, sR_2_7, sR_2_8, sR_2_9, sR_2_10, sR_2_11, sR_2_12, sT_15, sT_16, sT_17, sT_18, sT_19, sT_20, sT_21, sT_22, sT_23, sR_15_1, sR_15_2, sR_15_3, sR_15_4, sR_15_5, sR_15_6, sR_15_7, sR_15_8, sT_24, sT_25, sT_26, sT_27, sT_28, sT_29, sR_24_1, sR_24_2, sR_24_3, sR_24_4, sR_24_5, sT_71, sT_72, sR_71_0, sR_71_1, sR_71_2, sR_71_3, sR_71_4, sT_73, sT_74, sT_75, sR_73_0, sR_73_1, sR_73_2, sR_73_3, sR_73_4, sR_73_5, sT_84, sT_85, sT_86, sT_87, sR_84_0, sR_84_1, sR_84_2, sR_84_3, sR_84_4, sR_84_5, sT_88, sT_89, sR_88_0, sT_90, sT_91, sR_90_0, nI_0, hL]
  | some i =>
    rw [hq] at hL
    simp only [nI_0] at hL
    rw [oI_s]
    simp (disch := first | assumption | omega) [f_St_indexOf, body_St_indexOf, j_meth, j_out, j_rok, j_pad, lg_sl, s_seq_w, isN_inl, isN_inr, s_if, jb, x_c, x_iloc, x_aloc, x_lloc, x_bin, x_un, o_add, o_sub, o_mul, o_and, o_or, o_xor, o_shl, o_shr, o_ushr, o_max, o_min, o_i2b, o_i2c, o_i2l, o_l2i, x_fld, j_fget, x_idx, j_aget, x_len, j_alen, x_ofb, x_ite, xs_nil, xs_cons, x_callv, x_calls, s_callv, s_calls, j_recv, j_ret, j_retv, b_cmp, b_and, b_or, b_not, b_ofi, b_ite, b_true, s_skip, s_set, j_ty, j_lset, j_kill, s_inc, s_fput, j_fput, s_fop, s_aput, j_aput, j_nar, s_aop, s_ret, s_retv, s_go, s_pop, x_linc, x_finc, Value.category, if_icmp.holds, List.flatMap_cons, List.flatMap_nil, List.length_cons, List.length_append, List.length_nil, List.set_cons_succ, List.set_cons_zero, List.getElem?_cons_succ, List.getElem?_cons_zero, List.replicate, ite_and', ite_or', ite_int', nI_leI, nI_ltI, nI_eq, nI_add, nI_1, pk_mul, nI_clamp, n_in', nI_pos', nI_pos, n_m1e, n_01, n_10, sT_1, sR_1_0, sR_1_1, sR_1_2, sR_1_3, sR_1_4, sR_1_5, sR_1_6, sR_1_7, sR_1_8, sR_1_9, sT_2, sT_3, sT_4, sT_5, sT_6, sT_7, sT_8, sT_9, sT_10, sT_11, sT_12, sT_13, sT_14, sR_2_1, sR_2_2, sR_2_3, sR_2_4, sR_2_5, sR_2_6, sR_2_7, sR_2_8, sR_2_9, sR_2_10, sR_2_11, sR_2_12, sT_15, sT_16, sT_17, sT_18, sT_19, sT_20, sT_21, sT_22, sT_23, sR_15_1, sR_15_2, sR_15_3, sR_15_4, sR_15_5, sR_15_6, sR_15_7, sR_15_8, sT_24, sT_25, sT_26, sT_27, sT_28, sT_29, sR_24_1, sR_24_2, sR_24_3, sR_24_4, sR_24_5, sT_71, sT_72, sR_71_0, sR_71_1, sR_71_2, sR_71_3, sR_71_4, sT_73, sT_74, sT_75, sR_73_0, sR_73_1, sR_73_2, sR_73_3, sR_73_4, sR_73_5, sT_84, sT_85, sT_86, sT_87, sR_84_0, sR_84_1, sR_84_2, sR_84_3, sR_84_4, sR_84_5, sT_88, sT_89, sR_88_0, sT_90, sT_91, sR_90_0, nI_0, hL]
/-- on the way through the queue -/
theorem e_ds_5 {A : AS} {σ : Nat → Nat} {ra rl so di qu co : Nat} {h : jHp} (w : WF A) (b : BC A σ ra rl so di qu co h) (sok : SOK A (sAllR A) σ) {s e : Nat} (hsN : s < (sAllR A).length) (heN : e < (sAllR A).length) (db : DB (sAllR A).length di qu [s] (fun _ => 0) h) (x1 x2 : Int32) : ∃ h', ∃ i : Int32, s_loop 1 2 lc_St_distance_1 lb_St_distance_1 lu_St_distance_1 ([.ref 77, .int x1, .int x2, .int (nI e), .int (nI 0)], h) = some (.inl 0, ([.ref 77, .int x1, .int x2, .int (nI e), .int i], h')) ∧ Fr (Wbf di qu co) h h' ∧ hI h' di e = oI (dst (nxS A (sAllR A) σ) (sAllR A).length s e) := by
  have hlen := sAllR_len w
  have hL := loop_wp (lb := 1) (lc := 2) (c := lc_St_distance_1) (b := lb_St_distance_1) (u := lu_St_distance_1) (sAllR A).length
    (fun i st => ∃ h' Q far, st = ([.ref 77, .int x1, .int x2, .int (nI e), .int (nI i)], h') ∧ Fr (Wbf di qu co) h h' ∧ BIn (nxS A (sAllR A) σ) (sAllR A).length s Q far i ∧ DB (sAllR A).length di qu Q far h')
    (fun r => ∃ h', ∃ i : Int32, r = (.inl 0, ([.ref 77, .int x1, .int x2, .int (nI e), .int i], h')) ∧ Fr (Wbf di qu co) h h' ∧ hI h' di e = oI (dst (nxS A (sAllR A) σ) (sAllR A).length s e))
    ?_ ?_ ([.ref 77, .int x1, .int x2, .int (nI e), .int (nI 0)], h) ⟨h, [s], fun _ => 0, rfl, Fr_refl _ _, BIn_ini _ hsN, db⟩
  · obtain ⟨r, e1, h1, i, rfl, f1, g1⟩ := hL
    exact ⟨h1, i, e1, f1, g1⟩
  · rintro i st hi ⟨h1, Q, far, rfl, f1, bi, db1⟩
    have b1 := BC_fr b f1
    have hs1 := b1.1
    have hrl := b1.2.1.2.2.2.2.1
    have hNr := b1.2.1.2.2.2.1
    obtain ⟨d1, d2, d3⟩ := b1.2.2.2.1
    obtain ⟨q1, q2, q3⟩ := b1.2.2.2.2.1
    have k7 := b1.2.2.2.2.2.2.1
    have t77 := sT_77 hs1
    have ge := db1.1 e heN
    have g13 := db1.2.2
    have hine : j_in (nI e) rl = true := n_in' (by omega) (by omega)
    have hQl : Q.length ≤ (sAllR A).length := nd_le bi.1 bi.2.1
    by_cases hiQ : i < Q.length
    case neg =>
      right
      have hiq : i = Q.length := by have := bi.2.2.2.2.2.2.2.2; omega
      refine ⟨(.inl 0, ([.ref 77, .int x1, .int x2, .int (nI e), .int (nI i)], h1)), ?_, h1, nI i, rfl, f1, ?_⟩
      · clear bi db1 b1 f1 ge b sok db
        generalize Q.length = LQ at *
        generalize (sAllR A).length = LL at *
        simp (disch := first | assumption | omega) [lstp, lc_St_distance_1, lb_St_distance_1, lu_St_distance_1, j_meth, j_out, j_rok, j_pad, lg_sl, s_seq_w, isN_inl, isN_inr, s_if, jb, x_c, x_iloc, x_aloc, x_lloc, x_bin, x_un, o_add, o_sub, o_mul, o_and, o_or, o_xor, o_shl, o_shr, o_ushr, o_max, o_min, o_i2b, o_i2c, o_i2l, o_l2i, x_fld, j_fget, x_idx, j_aget, x_len, j_alen, x_ofb, x_ite, xs_nil, xs_cons, x_callv, x_calls, s_callv, s_calls, j_recv, j_ret, j_retv, b_cmp, b_and, b_or, b_not, b_ofi, b_ite, b_true, s_skip, s_set, j_ty, j_lset, j_kill, s_inc, s_fput, j_fput, s_fop, s_aput, j_aput, j_nar, s_aop, s_ret, s_retv, s_go, s_pop, x_linc, x_finc, Value.category, if_icmp.holds, List.flatMap_cons, List.flatMap_nil, List.length_cons, List.length_append, List.length_nil, List.set_cons_succ, List.set_cons_zero, List.getElem?_cons_succ, List.getElem?_cons_zero, List.replicate, ite_and', ite_or', ite_int', nI_leI, nI_ltI, nI_eq, nI_add, nI_1, pk_mul, nI_clamp, n_in', nI_pos', nI_pos, n_m1e, n_01, n_10, sT_1, sR_1_0, sR_1_1, sR_1_2, sR_1_3, sR_1_4, sR_1_5, sR_1_6, sR_1_7, sR_1_8, sR_1_9, sT_2, sT_3, sT_4, sT_5, sT_6, sT_7, sT_8, sT_9, sT_10, sT_11, sT_12, sT_13, sT_14, sR_2_1, sR_2_2, sR_2_3, sR_2_4, sR_2_5, sR_2_6, sR_2_7, sR_2_8, sR_2_9, sR_2_10, sR_2_11, sR_2_12, sT_15, sT_16, sT_17, sT_18, sT_19, sT_20, sT_21, sT_22, sT_23, sR_15_1, sR_15_2, sR_15_3, sR_15_4, sR_15_5, sR_15_6, sR_15_7, sR_15_8, sT_24, sT_25, sT_26, sT_27, sT_28, sT_29, sR_24_1, sR_24_2, sR_24_3, sR_24_4, sR_24_5, sT_71, sT_72, sR_71_0, sR_71_1, sR_71_2, sR_71_3, sR_71_4, sT_73, sT_74, sT_75, sR_73_0, sR_73_1, sR_73_2, sR_73_3, sR_73_4, sR_73_5, sT_84, sT_85, sT_86, sT_87, sR_84_0, sR_84_1, sR_84_2, sR_84_3, sR_84_4, sR_84_5, sT_88, sT_89, sR_88_0, sT_90, sT_91, sR_90_0, t77, k7, hi, g13, hiQ]
      · rw [ge]
        by_cases heQ : e ∈ Q
        · rw [if_pos heQ, BIn_found bi heQ, oI_s]
        · rw [if_neg heQ, BIn_none (by rw [← hiq]; exact bi) heN heQ, oI_n]
    by_cases heQ : e ∈ Q
    · right
      rw [if_pos heQ] at ge
      refine ⟨(.inl 0, ([.ref 77, .int x1, .int x2, .int (nI e), .int (nI i)], h1)), ?_, h1, nI i, rfl, f1, by rw [ge, BIn_found bi heQ, oI_s]⟩
      have hfe : far e < (sAllR A).length + 1 := by
        obtain ⟨a, ha, hae⟩ := mem_getD heQ
        have := bi.2.2.2.2.2.1 a ha
        rw [hae] at this
        omega
      have hne : (nI (far e) = -1) = False := n_m1e (by omega)
      clear bi db1 b1 f1 b sok db
      generalize far e = F at *
      generalize Q.length = LQ at *
      generalize (sAllR A).length = LL at *
      simp (disch := first | assumption | omega) [lstp, lc_St_distance_1, lb_St_distance_1, lu_St_distance_1, j_meth, j_out, j_rok, j_pad, lg_sl, s_seq_w, isN_inl, isN_inr, s_if, jb, x_c, x_iloc, x_aloc, x_lloc, x_bin, x_un, o_add, o_sub, o_mul, o_and, o_or, o_xor, o_shl, o_shr, o_ushr, o_max, o_min, o_i2b, o_i2c, o_i2l, o_l2i, x_fld, j_fget, x_idx, j_aget, x_len, j_alen, x_ofb, x_ite, xs_nil, xs_cons, x_callv, x_calls, s_callv, s_calls, j_recv, j_ret, j_retv, b_cmp, b_and, b_or, b_not, b_ofi, b_ite, b_true, s_skip, s_set, j_ty, j_lset, j_kill, s_inc, s_fput, j_fput, s_fop, s_aput, j_aput, j_nar, s_aop, s_ret, s_retv, s_go, s_pop, x_linc, x_finc, Value.category, if_icmp.holds, List.flatMap_cons, List.flatMap_nil, List.length_cons, List.length_append, List.length_nil, List.set_cons_succ, List.set_cons_zero, List.getElem?_cons_succ, List.getElem?_cons_zero, List.replicate, ite_and', ite_or', ite_int', nI_leI, nI_ltI, nI_eq, nI_add, nI_1, pk_mul, nI_clamp, n_in', nI_pos', nI_pos, n_m1e, n_01, n_10, sT_1, sR_1_0, sR_1_1, sR_1_2, sR_1_3, sR_1_4, sR_1_5, sR_1_6, sR_1_7, sR_1_8, sR_1_9, sT_2, sT_3, sT_4, sT_5, sT_6, sT_7, sT_8, sT_9, sT_10, sT_11, sT_12, sT_13, sT_14, sR_2_1, sR_2_2, sR_2_3, sR_2_4, sR_2_5, sR_2_6, sR_2_7, sR_2_8, sR_2_9, sR_2_10, sR_2_11, sR_2_12, sT_15, sT_16, sT_17, sT_18, sT_19, sT_20, sT_21, sT_22, sT_23, sR_15_1, sR_15_2, sR_15_3, sR_15_4, sR_15_5, sR_15_6, sR_15_7, sR_15_8, sT_24, sT_25, sT_26, sT_27, sT_28, sT_29, sR_24_1, sR_24_2, sR_24_3, sR_24_4, sR_24_5, sT_71, sT_72, sR_71_0, sR_71_1, sR_71_2, sR_71_3, sR_71_4, sT_73, sT_74, sT_75, sR_73_0, sR_73_1, sR_73_2, sR_73_3, sR_73_4, sR_73_5, sT_84, sT_85, sT_86, sT_87, sR_84_0, sR_84_1, sR_84_2, sR_84_3, sR_84_4, sR_84_5, sT_88, sT_89, sR_88_0, sT_90, sT_91, sR_90_0, t77, k7, hi, g13, hiQ, d1, d2, d3, hine, ge, hne]
    left
    rw [if_neg heQ] at ge
    -- the two ways from the next one of the queue
    have hatQ : Q.getD i 0 ∈ Q := getD_mem' hiQ
    have hatN := bi.2.1 _ hatQ
    have hfat : far (Q.getD i 0) ≤ i := bi.2.2.2.2.2.1 i hiQ
    have hfQ : ∀ j ∈ Q, far j < (sAllR A).length + 1 := fun j hj => by
      obtain ⟨a, ha, hae⟩ := mem_getD hj
      have := bi.2.2.2.2.2.1 a ha
      rw [hae] at this
      omega
    have gq := db1.2.1 i hiQ
    generalize hat : Q.getD i 0 = at' at *
    have hf' : ∀ j, (fun j => if j ∈ Q then far j else far at' + 1) j < 2 ^ 30 := fun j => by
      simp only
      split
      · have := hfQ j (by assumption); omega
      · omega
    have db1' : DB (sAllR A).length di qu Q (fun j => if j ∈ Q then far j else far at' + 1) h1 := ⟨fun j hj => by
      rw [db1.1 j hj]
      by_cases z : j ∈ Q
      · simp only [if_pos z]
      · simp only [if_neg z], db1.2.1, db1.2.2⟩
    obtain ⟨h2, ns1, e2, f2, db2, nd2, n21, n22⟩ := e_St_reachNext w b1 sok db1' bi.1 bi.2.1 (d := far at') (by omega) hf' hatN hatQ (by simp only [if_pos hatQ]) (fun j hj => by simp only [if_neg hj]) true
    have b2 := BC_fr b1 f2
    have hs2 := b2.1
    obtain ⟨h3, ns2, e3, f3, db3, nd3, n31, n32⟩ := e_St_reachNext w b2 sok db2 nd2 (fun j hj => by
      rcases List.mem_append.mp hj with z | z
      · exact bi.2.1 j z
      · exact (n21 j z).1) (d := far at') (by omega) hf' hatN (List.mem_append.mpr (Or.inl hatQ)) (by simp only [if_pos hatQ]) (fun j hj => by simp only [if_neg (fun z => hj (List.mem_append.mpr (Or.inl z)))]) false
    have b3 := BC_fr b2 f3
    have hs3 := b3.1
    have hap : Q ++ ns1 ++ ns2 = Q ++ (ns1 ++ ns2) := List.append_assoc _ _ _
    rw [hap] at db3 nd3
    have nd3' := List.nodup_append.mp nd3
    have bi' := BIn_step bi hiQ (ns := ns1 ++ ns2) nd3'.2.1 (fun j hj => by
      rw [hat]
      have hjQ : j ∉ Q := fun z => nd3'.2.2 j z j hj rfl
      rcases List.mem_append.mp hj with z | z
      · exact ⟨(n21 j z).1, hjQ, (nx_acc w sok hatN (n21 j z).1).mpr (Or.inl (n21 j z).2)⟩
      · exact ⟨(n31 j z).1, hjQ, (nx_acc w sok hatN (n31 j z).1).mpr (Or.inr (n31 j z).2)⟩) (fun j hj hx => by
      rw [hat] at hx
      rcases (nx_acc w sok hatN hj).mp hx with z | z
      · rcases n22 j hj z with y | y
        · exact Or.inl y
        · exact Or.inr (List.mem_append.mpr (Or.inl y))
      · rcases n32 j hj z with y | y
        · rcases List.mem_append.mp y with y | y
          · exact Or.inl y
          · exact Or.inr (List.mem_append.mpr (Or.inl y))
        · exact Or.inr (List.mem_append.mpr (Or.inr y)))
    rw [hat] at bi'
    refine ⟨([.ref 77, .int x1, .int x2, .int (nI e), .int (nI (i + 1))], h3), ?_, h3, _, _, rfl, Fr_trans f1 (Fr_trans f2 f3), bi', db3⟩
    have gq2 : hI h2 qu i = nI at' := by
      have := db2.2.1 i (by rw [List.length_append]; omega)
      rw [List.getD_eq_getElem?_getD, List.getElem?_append_left hiQ, ← List.getD_eq_getElem?_getD, hat] at this
      exact this
    obtain ⟨q1', q2', q3'⟩ := b2.2.2.2.2.1
    have t2 := sT_77 hs2
    have hini : j_in (nI i) rl = true := n_in' (by omega) (by omega)
    have h11 : nI 1 = 1 := rfl
    simp only [if_true] at e2
    simp only [Bool.false_eq_true, if_false] at e3
    clear bi bi' db1 db1' db2 db3 b1 b2 b3 f1 f2 f3 b sok db n21 n22 n31 n32 nd2 nd3 nd3' hfQ hf' hap hat hatQ
    generalize Q.length = LQ at *
    generalize (sAllR A).length = LL at *
    simp (disch := first | assumption | omega) [lstp, lc_St_distance_1, lb_St_distance_1, lu_St_distance_1, j_meth, j_out, j_rok, j_pad, lg_sl, s_seq_w, isN_inl, isN_inr, s_if, jb, x_c, x_iloc, x_aloc, x_lloc, x_bin, x_un, o_add, o_sub, o_mul, o_and, o_or, o_xor, o_shl, o_shr, o_ushr, o_max, o_min, o_i2b, o_i2c, o_i2l, o_l2i, x_fld, j_fget, x_idx, j_aget, x_len, j_alen, x_ofb, x_ite, xs_nil, xs_cons, x_callv, x_calls, s_callv, s_calls, j_recv, j_ret, j_retv, b_cmp, b_and, b_or, b_not, b_ofi, b_ite, b_true, s_skip, s_set, j_ty, j_lset, j_kill, s_inc, s_fput, j_fput, s_fop, s_aput, j_aput, j_nar, s_aop, s_ret, s_retv, s_go, s_pop, x_linc, x_finc, Value.category, if_icmp.holds, List.flatMap_cons, List.flatMap_nil, List.length_cons, List.length_append, List.length_nil, List.set_cons_succ, List.set_cons_zero, List.getElem?_cons_succ, List.getElem?_cons_zero, List.replicate, ite_and', ite_or', ite_int', nI_leI, nI_ltI, nI_eq, nI_add, nI_1, pk_mul, nI_clamp, n_in', nI_pos', nI_pos, n_m1e, n_01, n_10, sT_1, sR_1_0, sR_1_1, sR_1_2, sR_1_3, sR_1_4, sR_1_5, sR_1_6, sR_1_7, sR_1_8, sR_1_9, sT_2, sT_3, sT_4, sT_5, sT_6, sT_7, sT_8, sT_9, sT_10, sT_11, sT_12, sT_13, sT_14, sR_2_1, sR_2_2, sR_2_3, sR_2_4, sR_2_5, sR_2_6, sR_2_7, sR_2_8, sR_2_9, sR_2_10, sR_2_11, sR_2_12, sT_15, sT_16, sT_17, sT_18, sT_19, sT_20, sT_21, sT_22, sT_23, sR_15_1, sR_15_2, sR_15_3, sR_15_4, sR_15_5, sR_15_6, sR_15_7, sR_15_8, sT_24, sT_25, sT_26, sT_27, sT_28, sT_29, sR_24_1, sR_24_2, sR_24_3, sR_24_4, sR_24_5, sT_71, sT_72, sR_71_0, sR_71_1, sR_71_2, sR_71_3, sR_71_4, sT_73, sT_74, sT_75, sR_73_0, sR_73_1, sR_73_2, sR_73_3, sR_73_4, sR_73_5, sT_84, sT_85, sT_86, sT_87, sR_84_0, sR_84_1, sR_84_2, sR_84_3, sR_84_4, sR_84_5, sT_88, sT_89, sR_88_0, sT_90, sT_91, sR_90_0, t77, k7, hi, g13, hiQ, d1, d2, d3, hine, ge, q1, q2, q3, hini, gq, h11, e2, t2, q1', q2', gq2, nI_0, e3]
  · rintro st ⟨h1, Q, far, rfl, f1, bi, db1⟩
    have b1 := BC_fr b f1
    have hs1 := b1.1
    have k7 := b1.2.2.2.2.2.2.1
    have t77 := sT_77 hs1
    have ge := db1.1 e heN
    have hQl : Q.length ≤ (sAllR A).length := nd_le bi.1 bi.2.1
    have hiq : (sAllR A).length = Q.length := by have := bi.2.2.2.2.2.2.2.2; omega
    refine ⟨(.inl 0, ([.ref 77, .int x1, .int x2, .int (nI e), .int (nI (sAllR A).length)], h1)), ?_, h1, _, rfl, f1, ?_⟩
    · clear bi db1 b1 f1 b sok db ge
      generalize (sAllR A).length = LL at *
      simp (disch := first | assumption | omega) [lstp, lc_St_distance_1, lb_St_distance_1, lu_St_distance_1, j_meth, j_out, j_rok, j_pad, lg_sl, s_seq_w, isN_inl, isN_inr, s_if, jb, x_c, x_iloc, x_aloc, x_lloc, x_bin, x_un, o_add, o_sub, o_mul, o_and, o_or, o_xor, o_shl, o_shr, o_ushr, o_max, o_min, o_i2b, o_i2c, o_i2l, o_l2i, x_fld, j_fget, x_idx, j_aget, x_len, j_alen, x_ofb, x_ite, xs_nil, xs_cons, x_callv, x_calls, s_callv, s_calls, j_recv, j_ret, j_retv, b_cmp, b_and, b_or, b_not, b_ofi, b_ite, b_true, s_skip, s_set, j_ty, j_lset, j_kill, s_inc, s_fput, j_fput, s_fop, s_aput, j_aput, j_nar, s_aop, s_ret, s_retv, s_go, s_pop, x_linc, x_finc, Value.category, if_icmp.holds, List.flatMap_cons, List.flatMap_nil, List.length_cons, List.length_append, List.length_nil, List.set_cons_succ, List.set_cons_zero, List.getElem?_cons_succ, List.getElem?_cons_zero, List.replicate, ite_and', ite_or', ite_int', nI_leI, nI_ltI, nI_eq, nI_add, nI_1, pk_mul, nI_clamp, n_in', nI_pos', nI_pos, n_m1e, n_01, n_10, sT_1, sR_1_0, sR_1_1, sR_1_2, sR_1_3, sR_1_4, sR_1_5, sR_1_6, sR_1_7, sR_1_8, sR_1_9, sT_2, sT_3, sT_4, sT_5, sT_6, sT_7, sT_8, sT_9, sT_10, sT_11, sT_12, sT_13, sT_14, sR_2_1, sR_2_2, sR_2_3, sR_2_4, sR_2_5, sR_2_6, sR_2_7, sR_2_8, sR_2_9, sR_2_10, sR_2_11, sR_2_12, sT_15, sT_16, sT_17, sT_18, sT_19, sT_20, sT_21, sT_22, sT_23, sR_15_1, sR_15_2, sR_15_3, sR_15_4, sR_15_5, sR_15_6, sR_15_7, sR_15_8, sT_24, sT_25, sT_26, sT_27, sT_28, sT_29, sR_24_1, sR_24_2, sR_24_3, sR_24_4, sR_24_5, sT_71, sT_72, sR_71_0, sR_71_1, sR_71_2, sR_71_3, sR_71_4, sT_73, sT_74, sT_75, sR_73_0, sR_73_1, sR_73_2, sR_73_3, sR_73_4, sR_73_5, sT_84, sT_85, sT_86, sT_87, sR_84_0, sR_84_1, sR_84_2, sR_84_3, sR_84_4, sR_84_5, sT_88, sT_89, sR_88_0, sT_90, sT_91, sR_90_0, t77, k7]
    · rw [ge]
      by_cases heQ : e ∈ Q
      · rw [if_pos heQ, BIn_found bi heQ, oI_s]
      · rw [if_neg heQ, BIn_none (by rw [hiq] at bi; rw [hiq]; exact bi) heN heQ, oI_n]
theorem KNS_bf {A : AS} {h h' : jHp} (k : KNS A h) {di qu co : Nat} (r1 : hR h 77 10 = di) (r2 : hR h 77 11 = qu) (r3 : hR h 77 12 = co) (f : Fr (Wbf di qu co) h h') : KNS A h' ∧ ∀ a j, Wbf di qu co a j → okG a ∧ a ≠ 90 ∧ a ≠ 91 := by
  obtain ⟨fa, fl, sl, ra, rl, so, di', qu', co', g, k4, ⟨k7, kl, k8⟩, k5, kr, ks⟩ := k
  have e1 : di' = di := g.1.2.2.2.2.2.2.2.2.1.symm.trans r1
  have e2 : qu' = qu := g.1.2.2.2.2.2.2.2.2.2.2.1.symm.trans r2
  have e3 : co' = co := g.1.2.2.2.2.2.2.2.2.2.2.2.2.1.symm.trans r3
  subst e1 e2 e3
  have ifa := isG_ne g.2.1.1
  have iso := isG_ne g.2.1.2.2.2.1
  have idi := isG_ne g.2.1.2.2.2.2.1
  have iqu := isG_ne g.2.1.2.2.2.2.2.1
  have ico := isG_ne g.2.1.2.2.2.2.2.2
  have n := g.2.2.2.1
  have h7 : ∀ j, j ≠ 13 → ¬ Wbf di' qu' co' 77 j := fun j hj q => by
    rcases q with q | q | q | ⟨-, q⟩
    · exact idi.1.2.2.1 q.symm
    · exact iqu.1.2.2.1 q.symm
    · exact ico.1.2.2.1 q.symm
    · exact hj q
  refine ⟨⟨fa, fl, sl, ra, rl, so, di', qu', co', CGr_fr g f, by rw [Fr_I f (h7 _ (by decide))]; exact k4, ⟨by rw [Fr_I f (h7 _ (by decide))]; exact k7, kl, fun i hi => ?_⟩, by rw [Fr_I f (h7 _ (by decide))]; exact k5, kr, SRT_fr ks f fun j q => ?_⟩, fun a j q => ?_⟩
  · rw [Fr_I f fun q => ?_]
    · exact k8 i hi
    · rcases q with q | q | q | ⟨q, -⟩
      · exact n.2.1 q
      · exact n.2.2.1 q
      · exact n.2.2.2.1 q
      · exact ifa.1.2.2.1 q
  · rcases q with q | q | q | ⟨q, -⟩
    · exact n.2.2.2.2.1 q
    · exact n.2.2.2.2.2.1 q
    · exact n.2.2.2.2.2.2.1 q
    · exact iso.1.2.2.1 q
  · rcases q with q | q | q | ⟨q, -⟩
    · rw [q]; exact idi.2
    · rw [q]; exact iqu.2
    · rw [q]; exact ico.2
    · rw [q]; unfold okG; decide
noncomputable def ds_0 : jSt := (s_callv 9 f_St_sortByRanks (xs_cons (x_aloc 0) xs_nil))
noncomputable def ds_1 : jSt := (s_calls f_J_fill (xs_cons (x_fld 9 1 10 (x_aloc 0)) (xs_cons (x_c (.int (-1))) xs_nil)))
noncomputable def ds_2 : jSt := (s_fput 9 0 0 13 (x_aloc 0) (x_c (.int (nI 0))))
noncomputable def ds_3 : jSt := (s_set 0 3 (x_callv 9 f_St_placeOf (xs_cons (x_aloc 0) (xs_cons (x_iloc 2) xs_nil))))
noncomputable def ds_4 : jSt := (s_callv 9 f_St_reach (xs_cons (x_aloc 0) (xs_cons (x_callv 9 f_St_placeOf (xs_cons (x_aloc 0) (xs_cons (x_iloc 1) xs_nil))) (xs_cons (x_c (.int (nI 0))) xs_nil))))
noncomputable def ds_5 : jSt := (s_seq (s_set 0 4 (x_c (.int (nI 0)))) (s_loop 1 2 (lc_St_distance_1) (lb_St_distance_1) (lu_St_distance_1)))
noncomputable def ds_6 : jSt := (s_ret (x_idx 1 (x_fld 9 1 10 (x_aloc 0)) (x_iloc 3)))
theorem St_distance_s : f_St_distance = j_meth 1 5 (s_seq ds_0 (s_seq ds_1 (s_seq ds_2 (s_seq ds_3 (s_seq ds_4 (s_seq ds_5 ds_6)))))) := rfl
theorem e_St_distance {A : AS} {tx : List Nat} {rw : List Int32} {h : jHp} (r : RC A tx rw h) (k : KNW A h) {s t : Nat} (hs' : s < (sAllR A).length) (ht' : t < (sAllR A).length) : ∃ h', f_St_distance [.ref 77, .int (nI s), .int (nI t)] h = some (some (.int (oI (dst (nxL A (sAllR A)) (sAllR A).length s t))), h') ∧ RC A tx rw h' ∧ FC h h' := by
  have hs := r.1.1.1
  have w := r.1.1.2.1
  have hlen := sAllR_len w
  obtain ⟨h1, e1, r1, fc1, ks⟩ := e_St_sort r k
  have hs1 := r1.1.1.1
  obtain ⟨fa1, fl1, ra, rl, so, di, qu, co, σ, kf1, rk, s9, s10, s11, s12, sg, s2, s3, n, ig⟩ := KNS_RK ks
  have sok : SOK A (sAllR A) σ := ⟨fun i hi => FRk_all w hi, fun i hi => (sg i hi).1, s2, s3⟩
  have iso := isG_ne ig.1
  have idi := isG_ne ig.2.1
  have iqu := isG_ne ig.2.2.1
  have ico := isG_ne ig.2.2.2
  have b1 : BC A σ ra rl so di qu co h1 := ⟨hs1, rk, s9, s10, s11, s12, kf1.2.1, fun i hi => (sg i hi).2, ⟨n.2.2.2.2.1, n.2.2.2.2.2.1, n.2.2.2.2.2.2.1⟩, ⟨n.2.2.2.2.2.2.2.1, n.2.2.2.2.2.2.2.2.1, n.2.2.2.2.2.2.2.2.2⟩, iso.1.2.2.1, idi.1.2.2.1, iqu.1.2.2.1, ico.1.2.2.1⟩
  have hrl := rk.2.2.2.2.1
  have hNr := rk.2.2.2.1
  obtain ⟨h2, e2, f2, c2⟩ := e_J_fill (-1) s10.2.1 s10.2.2 hrl
  have f2 : Fr (Wbf di qu co) h1 h2 := Fr_mono f2 fun a j q => Or.inl q
  have hs2 := Fr_shape hs1 f2
  generalize hh3 : hSetI h2 77 13 (nI 0) = h3
  have f3 : Fr (Wbf di qu co) h2 h3 := by rw [← hh3]; exact Fr_set _ (Or.inr (Or.inr (Or.inr ⟨rfl, rfl⟩)))
  have b3 := BC_fr (BC_fr b1 f2) f3
  have hs3 := b3.1
  obtain ⟨pe, pe1, pe2, pe3⟩ := e_St_placeOf b3 sok.2.1 s2 ht'
  obtain ⟨ps, ps1, ps2, ps3⟩ := e_St_placeOf b3 sok.2.1 s2 hs'
  have db3 : DB (sAllR A).length di qu [] (fun _ => 0) h3 := ⟨fun i hi => by
      rw [← hh3, hI_setI, if_neg (fun q => idi.1.2.2.1 q.1), c2 i (by omega)]
      simp, fun a ha => by simp at ha, by rw [← hh3, hI_setI, if_pos ⟨rfl, rfl⟩]; rfl⟩
  obtain ⟨h4, e4, f4, db4⟩ := e_St_reach b3 db3 ps1 (d := 0) (by decide) List.nodup_nil (fun j hj => by cases hj) (fun j hj => by cases hj) (fun _ => rfl)
  have f4 : Fr (Wbf di qu co) h3 h4 := Fr_mono f4 fun a j q => Wrc_bf q
  have db4 : DB (sAllR A).length di qu [ps] (fun _ => 0) h4 := by simpa using db4
  have b4 := BC_fr b3 f4
  obtain ⟨h5, i5, e5, f5, g5⟩ := e_ds_5 w b4 sok ps1 pe1 db4 (nI s) (nI t)
  have b5 := BC_fr b4 f5
  have hs5 := b5.1
  have f15 := Fr_trans (Fr_trans (Fr_trans f2 f3) f4) f5
  obtain ⟨ks5, hW⟩ := KNS_bf ks s10.1 s11.1 s12.1 f15
  have hiso : dst (nxS A (sAllR A) σ) (sAllR A).length ps pe = dst (nxL A (sAllR A)) (sAllR A).length s t := by
    have := dst_iso (nx := nxL A (sAllR A)) sok.2.1 s2 ps1 pe1
    rw [ps2, pe2] at this
    exact this
  rw [hiso] at g5
  refine ⟨h5, ?_, RC_g r1 (FG_Fr (U := fun _ _ => False) f15) (fun a j q => (hW a j q).1) (CRw_fr r1.2.2.2.2.1 f15 fun a j q => (hW a j q).2) (KNS_St ks5), FC_trans fc1 (FC_Fr f15 fun a j q => ?_)⟩
  · rw [St_distance_s]
    obtain ⟨d1, d2, d3⟩ := b5.2.2.2.1
    obtain ⟨d1', -, d3'⟩ := b1.2.2.2.1
    have t77 := sT_77 hs
    have u1 := sT_77 hs1
    have u2 := sT_77 hs2
    have u3 := sT_77 hs3
    have hs4 := b4.1
    have u5 := sT_77 hs5
    have hin : j_in (nI pe) rl = true := n_in' (by omega) (by omega)
    have hci : (nI pe).toNatClampNeg = pe := nI_clamp (by omega)
    clear b1 b3 b4 b5 db3 db4 f15 f2 f3 f4 f5 ks ks5 hW sok sg s2 s3 rk kf1 r r1 fc1 k c2 hiso n s11 s12 s9
    generalize oI (dst (nxL A (sAllR A)) (sAllR A).length s t) = O at *
    have a0 : ds_0 ([.ref 77, .int (nI s), .int (nI t), .null, .null], h) = some (.inl 0, ([.ref 77, .int (nI s), .int (nI t), .null, .null], h1)) := by
      simp (disch := first | assumption | omega) [ds_0, j_meth, j_out, j_rok, j_pad, lg_sl, s_seq_w, isN_inl, isN_inr, s_if, jb, x_c, x_iloc, x_aloc, x_lloc, x_bin, x_un, o_add, o_sub, o_mul, o_and, o_or, o_xor, o_shl, o_shr, o_ushr, o_max, o_min, o_i2b, o_i2c, o_i2l, o_l2i, x_fld, j_fget, x_idx, j_aget, x_len, j_alen, x_ofb, x_ite, xs_nil, xs_cons, x_callv, x_calls, s_callv, s_calls, j_recv, j_ret, j_retv, b_cmp, b_and, b_or, b_not, b_ofi, b_ite, b_true, s_skip, s_set, j_ty, j_lset, j_kill, s_inc, s_fput, j_fput, s_fop, s_aput, j_aput, j_nar, s_aop, s_ret, s_retv, s_go, s_pop, x_linc, x_finc, Value.category, if_icmp.holds, List.flatMap_cons, List.flatMap_nil, List.length_cons, List.length_append, List.length_nil, List.set_cons_succ, List.set_cons_zero, List.getElem?_cons_succ, List.getElem?_cons_zero, List.replicate, t77, e1]
    have a1 : ds_1 ([.ref 77, .int (nI s), .int (nI t), .null, .null], h1) = some (.inl 0, ([.ref 77, .int (nI s), .int (nI t), .null, .null], h2)) := by
      simp (disch := first | assumption | omega) [ds_1, j_meth, j_out, j_rok, j_pad, lg_sl, s_seq_w, isN_inl, isN_inr, s_if, jb, x_c, x_iloc, x_aloc, x_lloc, x_bin, x_un, o_add, o_sub, o_mul, o_and, o_or, o_xor, o_shl, o_shr, o_ushr, o_max, o_min, o_i2b, o_i2c, o_i2l, o_l2i, x_fld, j_fget, x_idx, j_aget, x_len, j_alen, x_ofb, x_ite, xs_nil, xs_cons, x_callv, x_calls, s_callv, s_calls, j_recv, j_ret, j_retv, b_cmp, b_and, b_or, b_not, b_ofi, b_ite, b_true, s_skip, s_set, j_ty, j_lset, j_kill, s_inc, s_fput, j_fput, s_fop, s_aput, j_aput, j_nar, s_aop, s_ret, s_retv, s_go, s_pop, x_linc, x_finc, Value.category, if_icmp.holds, List.flatMap_cons, List.flatMap_nil, List.length_cons, List.length_append, List.length_nil, List.set_cons_succ, List.set_cons_zero, List.getElem?_cons_succ, List.getElem?_cons_zero, List.replicate, u1, d1', d3', e2]
    have a2 : ds_2 ([.ref 77, .int (nI s), .int (nI t), .null, .null], h2) = some (.inl 0, ([.ref 77, .int (nI s), .int (nI t), .null, .null], h3)) := by
      simp (disch := first | assumption | omega) [ds_2, j_meth, j_out, j_rok, j_pad, lg_sl, s_seq_w, isN_inl, isN_inr, s_if, jb, x_c, x_iloc, x_aloc, x_lloc, x_bin, x_un, o_add, o_sub, o_mul, o_and, o_or, o_xor, o_shl, o_shr, o_ushr, o_max, o_min, o_i2b, o_i2c, o_i2l, o_l2i, x_fld, j_fget, x_idx, j_aget, x_len, j_alen, x_ofb, x_ite, xs_nil, xs_cons, x_callv, x_calls, s_callv, s_calls, j_recv, j_ret, j_retv, b_cmp, b_and, b_or, b_not, b_ofi, b_ite, b_true, s_skip, s_set, j_ty, j_lset, j_kill, s_inc, s_fput, j_fput, s_fop, s_aput, j_aput, j_nar, s_aop, s_ret, s_retv, s_go, s_pop, x_linc, x_finc, Value.category, if_icmp.holds, List.flatMap_cons, List.flatMap_nil, List.length_cons, List.length_append, List.length_nil, List.set_cons_succ, List.set_cons_zero, List.getElem?_cons_succ, List.getElem?_cons_zero, List.replicate, u2, hh3]
    have a3 : ds_3 ([.ref 77, .int (nI s), .int (nI t), .null, .null], h3) = some (.inl 0, ([.ref 77, .int (nI s), .int (nI t), .int (nI pe), .null], h3)) := by
      simp (disch := first | assumption | omega) [ds_3, j_meth, j_out, j_rok, j_pad, lg_sl, s_seq_w, isN_inl, isN_inr, s_if, jb, x_c, x_iloc, x_aloc, x_lloc, x_bin, x_un, o_add, o_sub, o_mul, o_and, o_or, o_xor, o_shl, o_shr, o_ushr, o_max, o_min, o_i2b, o_i2c, o_i2l, o_l2i, x_fld, j_fget, x_idx, j_aget, x_len, j_alen, x_ofb, x_ite, xs_nil, xs_cons, x_callv, x_calls, s_callv, s_calls, j_recv, j_ret, j_retv, b_cmp, b_and, b_or, b_not, b_ofi, b_ite, b_true, s_skip, s_set, j_ty, j_lset, j_kill, s_inc, s_fput, j_fput, s_fop, s_aput, j_aput, j_nar, s_aop, s_ret, s_retv, s_go, s_pop, x_linc, x_finc, Value.category, if_icmp.holds, List.flatMap_cons, List.flatMap_nil, List.length_cons, List.length_append, List.length_nil, List.set_cons_succ, List.set_cons_zero, List.getElem?_cons_succ, List.getElem?_cons_zero, List.replicate, u3, pe3]
    have a4 : ds_4 ([.ref 77, .int (nI s), .int (nI t), .int (nI pe), .null], h3) = some (.inl 0, ([.ref 77, .int (nI s), .int (nI t), .int (nI pe), .null], h4)) := by
      simp (disch := first | assumption | omega) [ds_4, j_meth, j_out, j_rok, j_pad, lg_sl, s_seq_w, isN_inl, isN_inr, s_if, jb, x_c, x_iloc, x_aloc, x_lloc, x_bin, x_un, o_add, o_sub, o_mul, o_and, o_or, o_xor, o_shl, o_shr, o_ushr, o_max, o_min, o_i2b, o_i2c, o_i2l, o_l2i, x_fld, j_fget, x_idx, j_aget, x_len, j_alen, x_ofb, x_ite, xs_nil, xs_cons, x_callv, x_calls, s_callv, s_calls, j_recv, j_ret, j_retv, b_cmp, b_and, b_or, b_not, b_ofi, b_ite, b_true, s_skip, s_set, j_ty, j_lset, j_kill, s_inc, s_fput, j_fput, s_fop, s_aput, j_aput, j_nar, s_aop, s_ret, s_retv, s_go, s_pop, x_linc, x_finc, Value.category, if_icmp.holds, List.flatMap_cons, List.flatMap_nil, List.length_cons, List.length_append, List.length_nil, List.set_cons_succ, List.set_cons_zero, List.getElem?_cons_succ, List.getElem?_cons_zero, List.replicate, u3, ps3, e4]
    have a5 : ds_5 ([.ref 77, .int (nI s), .int (nI t), .int (nI pe), .null], h4) = some (.inl 0, ([.ref 77, .int (nI s), .int (nI t), .int (nI pe), .int i5], h5)) := by
      simp (disch := first | assumption | omega) [ds_5, j_meth, j_out, j_rok, j_pad, lg_sl, s_seq_w, isN_inl, isN_inr, s_if, jb, x_c, x_iloc, x_aloc, x_lloc, x_bin, x_un, o_add, o_sub, o_mul, o_and, o_or, o_xor, o_shl, o_shr, o_ushr, o_max, o_min, o_i2b, o_i2c, o_i2l, o_l2i, x_fld, j_fget, x_idx, j_aget, x_len, j_alen, x_ofb, x_ite, xs_nil, xs_cons, x_callv, x_calls, s_callv, s_calls, j_recv, j_ret, j_retv, b_cmp, b_and, b_or, b_not, b_ofi, b_ite, b_true, s_skip, s_set, j_ty, j_lset, j_kill, s_inc, s_fput, j_fput, s_fop, s_aput, j_aput, j_nar, s_aop, s_ret, s_retv, s_go, s_pop, x_linc, x_finc, Value.category, if_icmp.holds, List.flatMap_cons, List.flatMap_nil, List.length_cons, List.length_append, List.length_nil, List.set_cons_succ, List.set_cons_zero, List.getElem?_cons_succ, List.getElem?_cons_zero, List.replicate, e5]
    have a6 : ds_6 ([.ref 77, .int (nI s), .int (nI t), .int (nI pe), .int i5], h5) = some (.inr (some (.int O)), ([.ref 77, .int (nI s), .int (nI t), .int (nI pe), .int i5], h5)) := by
      simp (disch := first | assumption | omega) [ds_6, j_meth, j_out, j_rok, j_pad, lg_sl, s_seq_w, isN_inl, isN_inr, s_if, jb, x_c, x_iloc, x_aloc, x_lloc, x_bin, x_un, o_add, o_sub, o_mul, o_and, o_or, o_xor, o_shl, o_shr, o_ushr, o_max, o_min, o_i2b, o_i2c, o_i2l, o_l2i, x_fld, j_fget, x_idx, j_aget, x_len, j_alen, x_ofb, x_ite, xs_nil, xs_cons, x_callv, x_calls, s_callv, s_calls, j_recv, j_ret, j_retv, b_cmp, b_and, b_or, b_not, b_ofi, b_ite, b_true, s_skip, s_set, j_ty, j_lset, j_kill, s_inc, s_fput, j_fput, s_fop, s_aput, j_aput, j_nar, s_aop, s_ret, s_retv, s_go, s_pop, x_linc, x_finc, Value.category, if_icmp.holds, List.flatMap_cons, List.flatMap_nil, List.length_cons, List.length_append, List.length_nil, List.set_cons_succ, List.set_cons_zero, List.getElem?_cons_succ, List.getElem?_cons_zero, List.replicate, u5, d1, d2, d3, hin, hci, g5]
    simp (disch := first | assumption | omega) [j_meth, j_out, j_rok, j_pad, lg_sl, s_seq_w, isN_inl, isN_inr, s_if, jb, x_c, x_iloc, x_aloc, x_lloc, x_bin, x_un, o_add, o_sub, o_mul, o_and, o_or, o_xor, o_shl, o_shr, o_ushr, o_max, o_min, o_i2b, o_i2c, o_i2l, o_l2i, x_fld, j_fget, x_idx, j_aget, x_len, j_alen, x_ofb, x_ite, xs_nil, xs_cons, x_callv, x_calls, s_callv, s_calls, j_recv, j_ret, j_retv, b_cmp, b_and, b_or, b_not, b_ofi, b_ite, b_true, s_skip, s_set, j_ty, j_lset, j_kill, s_inc, s_fput, j_fput, s_fop, s_aput, j_aput, j_nar, s_aop, s_ret, s_retv, s_go, s_pop, x_linc, x_finc, Value.category, if_icmp.holds, List.flatMap_cons, List.flatMap_nil, List.length_cons, List.length_append, List.length_nil, List.set_cons_succ, List.set_cons_zero, List.getElem?_cons_succ, List.getElem?_cons_zero, List.replicate, a0, a1, a2, a3, a4, a5, a6]
  · have := (hW a j q).1
    unfold okG at this
    omega
theorem idx_in {A : AS} (w : WF A) (x : Int32) : fst1 (fun i => decide (nI ((sAllR A).getD i 0) = x)) (sAllR A).length = if j_in x (2 ^ aNb A) = true ∧ sStd A x.toNatClampNeg = true then some (idxL (sAllR A) x.toNatClampNeg) else none := by
  have h20 := w.2.2.1.1
  have hp20 : (2 : Nat) ^ aNb A ≤ 2 ^ 20 := Nat.pow_le_pow_right (by decide) h20
  have hmem : ∀ i, i < (sAllR A).length → (sAllR A).getD i 0 < 2 ^ aNb A ∧ sStd A ((sAllR A).getD i 0) = true := fun i hi => (sAllR_mem w).mp (getD_mem' (d := 0) hi)
  by_cases hq : j_in x (2 ^ aNb A) = true ∧ sStd A x.toNatClampNeg = true
  · rw [if_pos hq]
    obtain ⟨S, hS, rfl⟩ := j_in_ex hq.1 (by omega)
    rw [nI_clamp (by omega)] at hq ⊢
    have hSl : S ∈ sAllR A := (sAllR_mem w).mpr ⟨hS, hq.2⟩
    obtain ⟨x1, x2, x3⟩ := idxL_ok hSl
    refine fst1_of x1 (by rw [x2]; simp) fun m hm => ?_
    rw [decide_eq_false_iff_not]
    intro e
    have := (hmem m (by omega)).1
    exact x3 m hm ((n_eq (by omega) (by omega)).mp e)
  · rw [if_neg hq]
    refine fst1_no fun m hm => ?_
    rw [decide_eq_false_iff_not]
    intro e
    obtain ⟨m1, m2⟩ := hmem m hm
    apply hq
    rw [← e, nI_clamp (by omega)]
    exact ⟨n_in' m1 (by omega), m2⟩
noncomputable def st_0 : jSt := (s_callv 9 f_St_know (xs_cons (x_fld 0 1 6 (x_aloc 0)) xs_nil))
noncomputable def st_1 : jSt := (s_set 0 3 (x_callv 9 f_St_indexOf (xs_cons (x_fld 0 1 6 (x_aloc 0)) (xs_cons (x_iloc 1) xs_nil))))
noncomputable def st_2 : jSt := (s_set 0 4 (x_callv 9 f_St_indexOf (xs_cons (x_fld 0 1 6 (x_aloc 0)) (xs_cons (x_iloc 2) xs_nil))))
noncomputable def st_3 : jSt := (s_if (b_or (b_cmp .eq (x_iloc 3) (x_c (.int (-1)))) (b_cmp .eq (x_iloc 4) (x_c (.int (-1))))) (s_ret (x_c (.int (-1)))) s_skip)
noncomputable def st_4 : jSt := (s_set 0 5 (x_callv 9 f_St_distance (xs_cons (x_fld 0 1 6 (x_aloc 0)) (xs_cons (x_iloc 3) (xs_cons (x_iloc 4) xs_nil)))))
noncomputable def st_5 : jSt := (s_ret (x_ite (b_cmp .eq (x_iloc 5) (x_c (.int (-1)))) (x_c (.int (-2))) (x_iloc 5)))
theorem S_steps_s : f_S_steps = j_meth 1 6 (s_seq st_0 (s_seq st_1 (s_seq st_2 (s_seq st_3 (s_seq st_4 st_5))))) := rfl
theorem o_S_steps {A : AS} {tx : List Nat} {rw : List Int32} {h : jHp} (r : RC A tx rw h) (x y : Int32) : ∃ h', f_S_steps [.ref 1, .int x, .int y] h = some (some (.int (vSteps A x y)), h') ∧ RC A tx rw h' ∧ FC h h' := by
  have hs := r.1.1.1
  have w := r.1.1.2.1
  have hlen := sAllR_len w
  obtain ⟨h1, e1, r1, fc1, kn1⟩ := e_St_know r
  have hs1 := r1.1.1.1
  obtain ⟨fa, fl, kf1⟩ := KNW_KF kn1
  have i1 := e_St_indexOf hs1 w kf1 x
  have i2 := e_St_indexOf hs1 w kf1 y
  rw [idx_in w] at i1 i2
  rw [S_steps_s]
  have t1 := sT_1 hs
  have t2 := sT_1 hs1
  have r6 := sR_1_6 hs
  have r61 := sR_1_6 hs1
  have u0 := sT_77 hs
  have u1 := sT_77 hs1
  have a0 : st_0 ([.ref 1, .int x, .int y, .null, .null, .null], h) = some (.inl 0, ([.ref 1, .int x, .int y, .null, .null, .null], h1)) := by
    simp (disch := first | assumption | omega) [st_0, j_meth, j_out, j_rok, j_pad, lg_sl, s_seq_w, isN_inl, isN_inr, s_if, jb, x_c, x_iloc, x_aloc, x_lloc, x_bin, x_un, o_add, o_sub, o_mul, o_and, o_or, o_xor, o_shl, o_shr, o_ushr, o_max, o_min, o_i2b, o_i2c, o_i2l, o_l2i, x_fld, j_fget, x_idx, j_aget, x_len, j_alen, x_ofb, x_ite, xs_nil, xs_cons, x_callv, x_calls, s_callv, s_calls, j_recv, j_ret, j_retv, b_cmp, b_and, b_or, b_not, b_ofi, b_ite, b_true, s_skip, s_set, j_ty, j_lset, j_kill, s_inc, s_fput, j_fput, s_fop, s_aput, j_aput, j_nar, s_aop, s_ret, s_retv, s_go, s_pop, x_linc, x_finc, Value.category, if_icmp.holds, List.flatMap_cons, List.flatMap_nil, List.length_cons, List.length_append, List.length_nil, List.set_cons_succ, List.set_cons_zero, List.getElem?_cons_succ, List.getElem?_cons_zero, List.replicate, t1, r6, u0, e1]
  unfold vSteps
  by_cases hx : j_in x (2 ^ aNb A) = true ∧ sStd A x.toNatClampNeg = true
  case neg =>
    rw [if_neg hx, oI_n] at i1
    rw [if_neg (fun q => hx ⟨q.1.1, q.2.1⟩)]
    refine ⟨h1, ?_, r1, fc1⟩
    clear kf1 kn1 r r1
    generalize oI _ = O2 at i2
    have a1 : st_1 ([.ref 1, .int x, .int y, .null, .null, .null], h1) = some (.inl 0, ([.ref 1, .int x, .int y, .int (-1), .null, .null], h1)) := by
      simp (disch := first | assumption | omega) [st_1, j_meth, j_out, j_rok, j_pad, lg_sl, s_seq_w, isN_inl, isN_inr, s_if, jb, x_c, x_iloc, x_aloc, x_lloc, x_bin, x_un, o_add, o_sub, o_mul, o_and, o_or, o_xor, o_shl, o_shr, o_ushr, o_max, o_min, o_i2b, o_i2c, o_i2l, o_l2i, x_fld, j_fget, x_idx, j_aget, x_len, j_alen, x_ofb, x_ite, xs_nil, xs_cons, x_callv, x_calls, s_callv, s_calls, j_recv, j_ret, j_retv, b_cmp, b_and, b_or, b_not, b_ofi, b_ite, b_true, s_skip, s_set, j_ty, j_lset, j_kill, s_inc, s_fput, j_fput, s_fop, s_aput, j_aput, j_nar, s_aop, s_ret, s_retv, s_go, s_pop, x_linc, x_finc, Value.category, if_icmp.holds, List.flatMap_cons, List.flatMap_nil, List.length_cons, List.length_append, List.length_nil, List.set_cons_succ, List.set_cons_zero, List.getElem?_cons_succ, List.getElem?_cons_zero, List.replicate, t2, r61, u1, i1]
    have a2 : st_2 ([.ref 1, .int x, .int y, .int (-1), .null, .null], h1) = some (.inl 0, ([.ref 1, .int x, .int y, .int (-1), .int O2, .null], h1)) := by
      simp (disch := first | assumption | omega) [st_2, j_meth, j_out, j_rok, j_pad, lg_sl, s_seq_w, isN_inl, isN_inr, s_if, jb, x_c, x_iloc, x_aloc, x_lloc, x_bin, x_un, o_add, o_sub, o_mul, o_and, o_or, o_xor, o_shl, o_shr, o_ushr, o_max, o_min, o_i2b, o_i2c, o_i2l, o_l2i, x_fld, j_fget, x_idx, j_aget, x_len, j_alen, x_ofb, x_ite, xs_nil, xs_cons, x_callv, x_calls, s_callv, s_calls, j_recv, j_ret, j_retv, b_cmp, b_and, b_or, b_not, b_ofi, b_ite, b_true, s_skip, s_set, j_ty, j_lset, j_kill, s_inc, s_fput, j_fput, s_fop, s_aput, j_aput, j_nar, s_aop, s_ret, s_retv, s_go, s_pop, x_linc, x_finc, Value.category, if_icmp.holds, List.flatMap_cons, List.flatMap_nil, List.length_cons, List.length_append, List.length_nil, List.set_cons_succ, List.set_cons_zero, List.getElem?_cons_succ, List.getElem?_cons_zero, List.replicate, t2, r61, u1, i2]
    have a3 : st_3 ([.ref 1, .int x, .int y, .int (-1), .int O2, .null], h1) = some (.inr (some (.int (-1))), ([.ref 1, .int x, .int y, .int (-1), .int O2, .null], h1)) := by
      simp (disch := first | assumption | omega) [st_3, j_meth, j_out, j_rok, j_pad, lg_sl, s_seq_w, isN_inl, isN_inr, s_if, jb, x_c, x_iloc, x_aloc, x_lloc, x_bin, x_un, o_add, o_sub, o_mul, o_and, o_or, o_xor, o_shl, o_shr, o_ushr, o_max, o_min, o_i2b, o_i2c, o_i2l, o_l2i, x_fld, j_fget, x_idx, j_aget, x_len, j_alen, x_ofb, x_ite, xs_nil, xs_cons, x_callv, x_calls, s_callv, s_calls, j_recv, j_ret, j_retv, b_cmp, b_and, b_or, b_not, b_ofi, b_ite, b_true, s_skip, s_set, j_ty, j_lset, j_kill, s_inc, s_fput, j_fput, s_fop, s_aput, j_aput, j_nar, s_aop, s_ret, s_retv, s_go, s_pop, x_linc, x_finc, Value.category, if_icmp.holds, List.flatMap_cons, List.flatMap_nil, List.length_cons, List.length_append, List.length_nil, List.set_cons_succ, List.set_cons_zero, List.getElem?_cons_succ, List.getElem?_cons_zero, List.replicate]
    simp (disch := first | assumption | omega) [j_meth, j_out, j_rok, j_pad, lg_sl, s_seq_w, isN_inl, isN_inr, s_if, jb, x_c, x_iloc, x_aloc, x_lloc, x_bin, x_un, o_add, o_sub, o_mul, o_and, o_or, o_xor, o_shl, o_shr, o_ushr, o_max, o_min, o_i2b, o_i2c, o_i2l, o_l2i, x_fld, j_fget, x_idx, j_aget, x_len, j_alen, x_ofb, x_ite, xs_nil, xs_cons, x_callv, x_calls, s_callv, s_calls, j_recv, j_ret, j_retv, b_cmp, b_and, b_or, b_not, b_ofi, b_ite, b_true, s_skip, s_set, j_ty, j_lset, j_kill, s_inc, s_fput, j_fput, s_fop, s_aput, j_aput, j_nar, s_aop, s_ret, s_retv, s_go, s_pop, x_linc, x_finc, Value.category, if_icmp.holds, List.flatMap_cons, List.flatMap_nil, List.length_cons, List.length_append, List.length_nil, List.set_cons_succ, List.set_cons_zero, List.getElem?_cons_succ, List.getElem?_cons_zero, List.replicate, a0, a1, a2, a3]
  by_cases hy : j_in y (2 ^ aNb A) = true ∧ sStd A y.toNatClampNeg = true
  case neg =>
    rw [if_neg hy, oI_n] at i2
    rw [if_neg (fun q => hy ⟨q.1.2, q.2.2⟩)]
    refine ⟨h1, ?_, r1, fc1⟩
    clear kf1 kn1 r r1
    generalize oI _ = O1 at i1
    have a1 : st_1 ([.ref 1, .int x, .int y, .null, .null, .null], h1) = some (.inl 0, ([.ref 1, .int x, .int y, .int O1, .null, .null], h1)) := by
      simp (disch := first | assumption | omega) [st_1, j_meth, j_out, j_rok, j_pad, lg_sl, s_seq_w, isN_inl, isN_inr, s_if, jb, x_c, x_iloc, x_aloc, x_lloc, x_bin, x_un, o_add, o_sub, o_mul, o_and, o_or, o_xor, o_shl, o_shr, o_ushr, o_max, o_min, o_i2b, o_i2c, o_i2l, o_l2i, x_fld, j_fget, x_idx, j_aget, x_len, j_alen, x_ofb, x_ite, xs_nil, xs_cons, x_callv, x_calls, s_callv, s_calls, j_recv, j_ret, j_retv, b_cmp, b_and, b_or, b_not, b_ofi, b_ite, b_true, s_skip, s_set, j_ty, j_lset, j_kill, s_inc, s_fput, j_fput, s_fop, s_aput, j_aput, j_nar, s_aop, s_ret, s_retv, s_go, s_pop, x_linc, x_finc, Value.category, if_icmp.holds, List.flatMap_cons, List.flatMap_nil, List.length_cons, List.length_append, List.length_nil, List.set_cons_succ, List.set_cons_zero, List.getElem?_cons_succ, List.getElem?_cons_zero, List.replicate, t2, r61, u1, i1]
    have a2 : st_2 ([.ref 1, .int x, .int y, .int O1, .null, .null], h1) = some (.inl 0, ([.ref 1, .int x, .int y, .int O1, .int (-1), .null], h1)) := by
      simp (disch := first | assumption | omega) [st_2, j_meth, j_out, j_rok, j_pad, lg_sl, s_seq_w, isN_inl, isN_inr, s_if, jb, x_c, x_iloc, x_aloc, x_lloc, x_bin, x_un, o_add, o_sub, o_mul, o_and, o_or, o_xor, o_shl, o_shr, o_ushr, o_max, o_min, o_i2b, o_i2c, o_i2l, o_l2i, x_fld, j_fget, x_idx, j_aget, x_len, j_alen, x_ofb, x_ite, xs_nil, xs_cons, x_callv, x_calls, s_callv, s_calls, j_recv, j_ret, j_retv, b_cmp, b_and, b_or, b_not, b_ofi, b_ite, b_true, s_skip, s_set, j_ty, j_lset, j_kill, s_inc, s_fput, j_fput, s_fop, s_aput, j_aput, j_nar, s_aop, s_ret, s_retv, s_go, s_pop, x_linc, x_finc, Value.category, if_icmp.holds, List.flatMap_cons, List.flatMap_nil, List.length_cons, List.length_append, List.length_nil, List.set_cons_succ, List.set_cons_zero, List.getElem?_cons_succ, List.getElem?_cons_zero, List.replicate, t2, r61, u1, i2]
    have a3 : st_3 ([.ref 1, .int x, .int y, .int O1, .int (-1), .null], h1) = some (.inr (some (.int (-1))), ([.ref 1, .int x, .int y, .int O1, .int (-1), .null], h1)) := by
      simp (disch := first | assumption | omega) [st_3, j_meth, j_out, j_rok, j_pad, lg_sl, s_seq_w, isN_inl, isN_inr, s_if, jb, x_c, x_iloc, x_aloc, x_lloc, x_bin, x_un, o_add, o_sub, o_mul, o_and, o_or, o_xor, o_shl, o_shr, o_ushr, o_max, o_min, o_i2b, o_i2c, o_i2l, o_l2i, x_fld, j_fget, x_idx, j_aget, x_len, j_alen, x_ofb, x_ite, xs_nil, xs_cons, x_callv, x_calls, s_callv, s_calls, j_recv, j_ret, j_retv, b_cmp, b_and, b_or, b_not, b_ofi, b_ite, b_true, s_skip, s_set, j_ty, j_lset, j_kill, s_inc, s_fput, j_fput, s_fop, s_aput, j_aput, j_nar, s_aop, s_ret, s_retv, s_go, s_pop, x_linc, x_finc, Value.category, if_icmp.holds, List.flatMap_cons, List.flatMap_nil, List.length_cons, List.length_append, List.length_nil, List.set_cons_succ, List.set_cons_zero, List.getElem?_cons_succ, List.getElem?_cons_zero, List.replicate]
    simp (disch := first | assumption | omega) [j_meth, j_out, j_rok, j_pad, lg_sl, s_seq_w, isN_inl, isN_inr, s_if, jb, x_c, x_iloc, x_aloc, x_lloc, x_bin, x_un, o_add, o_sub, o_mul, o_and, o_or, o_xor, o_shl, o_shr, o_ushr, o_max, o_min, o_i2b, o_i2c, o_i2l, o_l2i, x_fld, j_fget, x_idx, j_aget, x_len, j_alen, x_ofb, x_ite, xs_nil, xs_cons, x_callv, x_calls, s_callv, s_calls, j_recv, j_ret, j_retv, b_cmp, b_and, b_or, b_not, b_ofi, b_ite, b_true, s_skip, s_set, j_ty, j_lset, j_kill, s_inc, s_fput, j_fput, s_fop, s_aput, j_aput, j_nar, s_aop, s_ret, s_retv, s_go, s_pop, x_linc, x_finc, Value.category, if_icmp.holds, List.flatMap_cons, List.flatMap_nil, List.length_cons, List.length_append, List.length_nil, List.set_cons_succ, List.set_cons_zero, List.getElem?_cons_succ, List.getElem?_cons_zero, List.replicate, a0, a1, a2, a3]
  rw [if_pos hx, oI_s] at i1
  rw [if_pos hy, oI_s] at i2
  rw [if_pos ⟨⟨hx.1, hy.1⟩, hx.2, hy.2⟩]
  have hnb : (2 : Nat) ^ aNb A ≤ 2 ^ 20 := Nat.pow_le_pow_right (by decide) w.2.2.1.1
  have hin : ∀ z : Int32, j_in z (2 ^ aNb A) = true → sStd A z.toNatClampNeg = true → idxL (sAllR A) z.toNatClampNeg < (sAllR A).length := fun z z1 z2 => by
    obtain ⟨S, hS, rfl⟩ := j_in_ex z1 (by omega)
    rw [nI_clamp (by omega)] at z2 ⊢
    exact (idxL_ok ((sAllR_mem w).mpr ⟨hS, z2⟩)).1
  have l1 := hin x hx.1 hx.2
  have l2 := hin y hy.1 hy.2
  generalize idxL (sAllR A) x.toNatClampNeg = s at *
  generalize idxL (sAllR A) y.toNatClampNeg = t at *
  obtain ⟨h2, e2, r2, fc2⟩ := e_St_distance r1 kn1 l1 l2
  have hs2 := r2.1.1.1
  refine ⟨h2, ?_, r2, FC_trans fc1 fc2⟩
  have hdl : ∀ q, dst (nxL A (sAllR A)) (sAllR A).length s t = some q → q < (sAllR A).length + 1 := fun q hq => fst1_lt hq
  have hns : (nI s = -1) = False := n_m1e (by omega)
  have hnt : (nI t = -1) = False := n_m1e (by omega)
  clear kf1 kn1 r r1 r2 fc1 fc2 hin
  have a1 : st_1 ([.ref 1, .int x, .int y, .null, .null, .null], h1) = some (.inl 0, ([.ref 1, .int x, .int y, .int (nI s), .null, .null], h1)) := by
    simp (disch := first | assumption | omega) [st_1, j_meth, j_out, j_rok, j_pad, lg_sl, s_seq_w, isN_inl, isN_inr, s_if, jb, x_c, x_iloc, x_aloc, x_lloc, x_bin, x_un, o_add, o_sub, o_mul, o_and, o_or, o_xor, o_shl, o_shr, o_ushr, o_max, o_min, o_i2b, o_i2c, o_i2l, o_l2i, x_fld, j_fget, x_idx, j_aget, x_len, j_alen, x_ofb, x_ite, xs_nil, xs_cons, x_callv, x_calls, s_callv, s_calls, j_recv, j_ret, j_retv, b_cmp, b_and, b_or, b_not, b_ofi, b_ite, b_true, s_skip, s_set, j_ty, j_lset, j_kill, s_inc, s_fput, j_fput, s_fop, s_aput, j_aput, j_nar, s_aop, s_ret, s_retv, s_go, s_pop, x_linc, x_finc, Value.category, if_icmp.holds, List.flatMap_cons, List.flatMap_nil, List.length_cons, List.length_append, List.length_nil, List.set_cons_succ, List.set_cons_zero, List.getElem?_cons_succ, List.getElem?_cons_zero, List.replicate, t2, r61, u1, i1]
  have a2 : st_2 ([.ref 1, .int x, .int y, .int (nI s), .null, .null], h1) = some (.inl 0, ([.ref 1, .int x, .int y, .int (nI s), .int (nI t), .null], h1)) := by
    simp (disch := first | assumption | omega) [st_2, j_meth, j_out, j_rok, j_pad, lg_sl, s_seq_w, isN_inl, isN_inr, s_if, jb, x_c, x_iloc, x_aloc, x_lloc, x_bin, x_un, o_add, o_sub, o_mul, o_and, o_or, o_xor, o_shl, o_shr, o_ushr, o_max, o_min, o_i2b, o_i2c, o_i2l, o_l2i, x_fld, j_fget, x_idx, j_aget, x_len, j_alen, x_ofb, x_ite, xs_nil, xs_cons, x_callv, x_calls, s_callv, s_calls, j_recv, j_ret, j_retv, b_cmp, b_and, b_or, b_not, b_ofi, b_ite, b_true, s_skip, s_set, j_ty, j_lset, j_kill, s_inc, s_fput, j_fput, s_fop, s_aput, j_aput, j_nar, s_aop, s_ret, s_retv, s_go, s_pop, x_linc, x_finc, Value.category, if_icmp.holds, List.flatMap_cons, List.flatMap_nil, List.length_cons, List.length_append, List.length_nil, List.set_cons_succ, List.set_cons_zero, List.getElem?_cons_succ, List.getElem?_cons_zero, List.replicate, t2, r61, u1, i2]
  have a3 : st_3 ([.ref 1, .int x, .int y, .int (nI s), .int (nI t), .null], h1) = some (.inl 0, ([.ref 1, .int x, .int y, .int (nI s), .int (nI t), .null], h1)) := by
    simp (disch := first | assumption | omega) [st_3, j_meth, j_out, j_rok, j_pad, lg_sl, s_seq_w, isN_inl, isN_inr, s_if, jb, x_c, x_iloc, x_aloc, x_lloc, x_bin, x_un, o_add, o_sub, o_mul, o_and, o_or, o_xor, o_shl, o_shr, o_ushr, o_max, o_min, o_i2b, o_i2c, o_i2l, o_l2i, x_fld, j_fget, x_idx, j_aget, x_len, j_alen, x_ofb, x_ite, xs_nil, xs_cons, x_callv, x_calls, s_callv, s_calls, j_recv, j_ret, j_retv, b_cmp, b_and, b_or, b_not, b_ofi, b_ite, b_true, s_skip, s_set, j_ty, j_lset, j_kill, s_inc, s_fput, j_fput, s_fop, s_aput, j_aput, j_nar, s_aop, s_ret, s_retv, s_go, s_pop, x_linc, x_finc, Value.category, if_icmp.holds, List.flatMap_cons, List.flatMap_nil, List.length_cons, List.length_append, List.length_nil, List.set_cons_succ, List.set_cons_zero, List.getElem?_cons_succ, List.getElem?_cons_zero, List.replicate, hns, hnt]
  cases hd : dst (nxL A (sAllR A)) (sAllR A).length s t with
  | none =>
    rw [hd, oI_n] at e2
    have a4 : st_4 ([.ref 1, .int x, .int y, .int (nI s), .int (nI t), .null], h1) = some (.inl 0, ([.ref 1, .int x, .int y, .int (nI s), .int (nI t), .int (-1)], h2)) := by
      simp (disch := first | assumption | omega) [st_4, j_meth, j_out, j_rok, j_pad, lg_sl, s_seq_w, isN_inl, isN_inr, s_if, jb, x_c, x_iloc, x_aloc, x_lloc, x_bin, x_un, o_add, o_sub, o_mul, o_and, o_or, o_xor, o_shl, o_shr, o_ushr, o_max, o_min, o_i2b, o_i2c, o_i2l, o_l2i, x_fld, j_fget, x_idx, j_aget, x_len, j_alen, x_ofb, x_ite, xs_nil, xs_cons, x_callv, x_calls, s_callv, s_calls, j_recv, j_ret, j_retv, b_cmp, b_and, b_or, b_not, b_ofi, b_ite, b_true, s_skip, s_set, j_ty, j_lset, j_kill, s_inc, s_fput, j_fput, s_fop, s_aput, j_aput, j_nar, s_aop, s_ret, s_retv, s_go, s_pop, x_linc, x_finc, Value.category, if_icmp.holds, List.flatMap_cons, List.flatMap_nil, List.length_cons, List.length_append, List.length_nil, List.set_cons_succ, List.set_cons_zero, List.getElem?_cons_succ, List.getElem?_cons_zero, List.replicate, t2, r61, u1, e2]
    have a5 : st_5 ([.ref 1, .int x, .int y, .int (nI s), .int (nI t), .int (-1)], h2) = some (.inr (some (.int (-2))), ([.ref 1, .int x, .int y, .int (nI s), .int (nI t), .int (-1)], h2)) := by
      simp (disch := first | assumption | omega) [st_5, j_meth, j_out, j_rok, j_pad, lg_sl, s_seq_w, isN_inl, isN_inr, s_if, jb, x_c, x_iloc, x_aloc, x_lloc, x_bin, x_un, o_add, o_sub, o_mul, o_and, o_or, o_xor, o_shl, o_shr, o_ushr, o_max, o_min, o_i2b, o_i2c, o_i2l, o_l2i, x_fld, j_fget, x_idx, j_aget, x_len, j_alen, x_ofb, x_ite, xs_nil, xs_cons, x_callv, x_calls, s_callv, s_calls, j_recv, j_ret, j_retv, b_cmp, b_and, b_or, b_not, b_ofi, b_ite, b_true, s_skip, s_set, j_ty, j_lset, j_kill, s_inc, s_fput, j_fput, s_fop, s_aput, j_aput, j_nar, s_aop, s_ret, s_retv, s_go, s_pop, x_linc, x_finc, Value.category, if_icmp.holds, List.flatMap_cons, List.flatMap_nil, List.length_cons, List.length_append, List.length_nil, List.set_cons_succ, List.set_cons_zero, List.getElem?_cons_succ, List.getElem?_cons_zero, List.replicate]
    simp (disch := first | assumption | omega) [j_meth, j_out, j_rok, j_pad, lg_sl, s_seq_w, isN_inl, isN_inr, s_if, jb, x_c, x_iloc, x_aloc, x_lloc, x_bin, x_un, o_add, o_sub, o_mul, o_and, o_or, o_xor, o_shl, o_shr, o_ushr, o_max, o_min, o_i2b, o_i2c, o_i2l, o_l2i, x_fld, j_fget, x_idx, j_aget, x_len, j_alen, x_ofb, x_ite, xs_nil, xs_cons, x_callv, x_calls, s_callv, s_calls, j_recv, j_ret, j_retv, b_cmp, b_and, b_or, b_not, b_ofi, b_ite, b_true, s_skip, s_set, j_ty, j_lset, j_kill, s_inc, s_fput, j_fput, s_fop, s_aput, j_aput, j_nar, s_aop, s_ret, s_retv, s_go, s_pop, x_linc, x_finc, Value.category, if_icmp.holds, List.flatMap_cons, List.flatMap_nil, List.length_cons, List.length_append, List.length_nil, List.set_cons_succ, List.set_cons_zero, List.getElem?_cons_succ, List.getElem?_cons_zero, List.replicate, a0, a1, a2, a3, a4, a5]
  | some q =>
    have hq := hdl q hd
    rw [hd, oI_s] at e2
    have hnq : (nI q = -1) = False := n_m1e (by omega)
    have a4 : st_4 ([.ref 1, .int x, .int y, .int (nI s), .int (nI t), .null], h1) = some (.inl 0, ([.ref 1, .int x, .int y, .int (nI s), .int (nI t), .int (nI q)], h2)) := by
      simp (disch := first | assumption | omega) [st_4, j_meth, j_out, j_rok, j_pad, lg_sl, s_seq_w, isN_inl, isN_inr, s_if, jb, x_c, x_iloc, x_aloc, x_lloc, x_bin, x_un, o_add, o_sub, o_mul, o_and, o_or, o_xor, o_shl, o_shr, o_ushr, o_max, o_min, o_i2b, o_i2c, o_i2l, o_l2i, x_fld, j_fget, x_idx, j_aget, x_len, j_alen, x_ofb, x_ite, xs_nil, xs_cons, x_callv, x_calls, s_callv, s_calls, j_recv, j_ret, j_retv, b_cmp, b_and, b_or, b_not, b_ofi, b_ite, b_true, s_skip, s_set, j_ty, j_lset, j_kill, s_inc, s_fput, j_fput, s_fop, s_aput, j_aput, j_nar, s_aop, s_ret, s_retv, s_go, s_pop, x_linc, x_finc, Value.category, if_icmp.holds, List.flatMap_cons, List.flatMap_nil, List.length_cons, List.length_append, List.length_nil, List.set_cons_succ, List.set_cons_zero, List.getElem?_cons_succ, List.getElem?_cons_zero, List.replicate, t2, r61, u1, e2]
    have a5 : st_5 ([.ref 1, .int x, .int y, .int (nI s), .int (nI t), .int (nI q)], h2) = some (.inr (some (.int (nI q))), ([.ref 1, .int x, .int y, .int (nI s), .int (nI t), .int (nI q)], h2)) := by
      simp (disch := first | assumption | omega) [st_5, j_meth, j_out, j_rok, j_pad, lg_sl, s_seq_w, isN_inl, isN_inr, s_if, jb, x_c, x_iloc, x_aloc, x_lloc, x_bin, x_un, o_add, o_sub, o_mul, o_and, o_or, o_xor, o_shl, o_shr, o_ushr, o_max, o_min, o_i2b, o_i2c, o_i2l, o_l2i, x_fld, j_fget, x_idx, j_aget, x_len, j_alen, x_ofb, x_ite, xs_nil, xs_cons, x_callv, x_calls, s_callv, s_calls, j_recv, j_ret, j_retv, b_cmp, b_and, b_or, b_not, b_ofi, b_ite, b_true, s_skip, s_set, j_ty, j_lset, j_kill, s_inc, s_fput, j_fput, s_fop, s_aput, j_aput, j_nar, s_aop, s_ret, s_retv, s_go, s_pop, x_linc, x_finc, Value.category, if_icmp.holds, List.flatMap_cons, List.flatMap_nil, List.length_cons, List.length_append, List.length_nil, List.set_cons_succ, List.set_cons_zero, List.getElem?_cons_succ, List.getElem?_cons_zero, List.replicate, hnq]
    simp (disch := first | assumption | omega) [j_meth, j_out, j_rok, j_pad, lg_sl, s_seq_w, isN_inl, isN_inr, s_if, jb, x_c, x_iloc, x_aloc, x_lloc, x_bin, x_un, o_add, o_sub, o_mul, o_and, o_or, o_xor, o_shl, o_shr, o_ushr, o_max, o_min, o_i2b, o_i2c, o_i2l, o_l2i, x_fld, j_fget, x_idx, j_aget, x_len, j_alen, x_ofb, x_ite, xs_nil, xs_cons, x_callv, x_calls, s_callv, s_calls, j_recv, j_ret, j_retv, b_cmp, b_and, b_or, b_not, b_ofi, b_ite, b_true, s_skip, s_set, j_ty, j_lset, j_kill, s_inc, s_fput, j_fput, s_fop, s_aput, j_aput, j_nar, s_aop, s_ret, s_retv, s_go, s_pop, x_linc, x_finc, Value.category, if_icmp.holds, List.flatMap_cons, List.flatMap_nil, List.length_cons, List.length_append, List.length_nil, List.set_cons_succ, List.set_cons_zero, List.getElem?_cons_succ, List.getElem?_cons_zero, List.replicate, a0, a1, a2, a3, a4, a5]
