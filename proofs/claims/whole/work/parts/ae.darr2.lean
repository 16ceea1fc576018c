def Wpl (k i a j : Nat) : Prop := a = dA k + 9 ∧ j = i
theorem Wpl_Wda {k i a j : Nat} (h : Wpl k i a j) : Wda k a j := Or.inr (Or.inr h.1)
theorem e_D_arrange_2 {A : AS} {h : jHp} (x : CX A h) {k a i : Nat} (hk : k < 4) (d : CD0 A k a h) (hi : i < nOf A k) (c0 : hI h (dA k + 9) i = nI 0) : ∃ h', s_loop 3 4 lc_D_arrange_2 lb_D_arrange_2 lu_D_arrange_2 ([.ref (dA k), .int (nI (nOf A k)), .int (nI i), .int (nI 0)], h) = some (.inl 0, ([.ref (dA k), .int (nI (nOf A k)), .int (nI i), .int (nI (nOf A k))], h')) ∧ Fr (Wpl k i) h h' ∧ hI h' (dA k + 9) i = nI (plc A k i) := by
  have w := x.2.1
  have h8 := nOf_le w k
  rw [← plc_cnt w hi]
  have hL := loop_wp (lb := 3) (lc := 4) (c := lc_D_arrange_2) (b := lb_D_arrange_2) (u := lu_D_arrange_2) (nOf A k)
    (fun j st => ∃ h', st = ([.ref (dA k), .int (nI (nOf A k)), .int (nI i), .int (nI j)], h') ∧ Fr (Wpl k i) h h' ∧ hI h' (dA k + 9) i = nI (cntN (fun j => i != j && sAhd A k (bAt A k j) (bAt A k i)) j))
    (fun r => ∃ h', r = (.inl 0, ([.ref (dA k), .int (nI (nOf A k)), .int (nI i), .int (nI (nOf A k))], h')) ∧ Fr (Wpl k i) h h' ∧ hI h' (dA k + 9) i = nI (cntN (fun j => i != j && sAhd A k (bAt A k j) (bAt A k i)) (nOf A k)))
    ?_ ?_ ([.ref (dA k), .int (nI (nOf A k)), .int (nI i), .int (nI 0)], h) ⟨h, rfl, Fr_refl _ _, c0⟩
  · obtain ⟨r, e, h', rfl, f, c⟩ := hL
    exact ⟨h', e, f, c⟩
  · rintro j st hj ⟨h1, rfl, f1, c1⟩
    left
    have hW : ∀ a j, Wpl k i a j → ¬ cC a j := fun a j q => Wdk_cC hk (Wda_Wdk (Wpl_Wda q))
    have x1 := CX_fr x f1 hW
    have d1 := CD0_fr hk d f1 hW
    have hs1 := x1.1
    obtain ⟨t1, r1, r2, r4, r5, r6, t7, t8, t9, -⟩ := DSh_of hs1 hk
    have n9 : dA k + 9 ≠ 0 := by omega
    have n8 : dA k + 8 ≠ 0 := by omega
    have n7 : dA k + 7 ≠ 0 := by omega
    have b1 := e_D_bondAt x1 hk d1 hi
    have b2 := e_D_bondAt x1 hk d1 hj
    have ea := e_D_isAhead x1 hk d1 (bAt_ok w hj).1 (bAt_ok w hi).1
    have hcs : cntN (fun j => i != j && sAhd A k (bAt A k j) (bAt A k i)) (j + 1) = if (i != j && sAhd A k (bAt A k j) (bAt A k i)) = true then cntN (fun j => i != j && sAhd A k (bAt A k j) (bAt A k i)) j + 1 else cntN (fun j => i != j && sAhd A k (bAt A k j) (bAt A k i)) j := rfl
    have hcl := cntN_le (fun j => i != j && sAhd A k (bAt A k j) (bAt A k i)) j
    generalize hD9 : dA k + 9 = D9 at *
    have hWi : Wpl k i D9 i := ⟨hD9.symm, rfl⟩
    generalize dA k = D at *
    by_cases e : i = j
    · refine ⟨([.ref D, .int (nI (nOf A k)), .int (nI i), .int (nI (j + 1))], h1), ?_, h1, rfl, f1, ?_⟩
      · subst e
        simp (disch := first | assumption | omega) [lstp, lc_D_arrange_2, lb_D_arrange_2, lu_D_arrange_2, j_meth, j_out, j_rok, j_pad, lg_sl, s_seq_w, isN_inl, isN_inr, s_if, jb, x_c, x_iloc, x_aloc, x_lloc, x_bin, x_un, o_add, o_sub, o_mul, o_and, o_or, o_xor, o_shl, o_shr, o_ushr, o_max, o_min, o_i2b, o_i2c, o_i2l, o_l2i, x_fld, j_fget, x_idx, j_aget, x_len, j_alen, x_ofb, x_ite, xs_nil, xs_cons, x_callv, x_calls, s_callv, s_calls, j_recv, j_ret, j_retv, b_cmp, b_and, b_or, b_not, b_ofi, b_ite, b_true, s_skip, s_set, j_ty, j_lset, j_kill, s_inc, s_fput, j_fput, s_fop, s_aput, j_aput, j_nar, s_aop, s_ret, s_retv, s_go, s_pop, x_linc, x_finc, Value.category, if_icmp.holds, List.flatMap_cons, List.flatMap_nil, List.length_cons, List.length_append, List.length_nil, List.set_cons_succ, List.set_cons_zero, List.getElem?_cons_succ, List.getElem?_cons_zero, List.replicate, ite_and', ite_or', ite_int', nI_leI, nI_ltI, nI_eq, nI_add, nI_1, pk_mul, nI_clamp, n_in', nI_pos', nI_pos, n_m1e, n_01, n_10, sT_1, sR_1_0, sR_1_1, sR_1_2, sR_1_3, sR_1_4, sR_1_5, sR_1_6, sR_1_7, sR_1_8, sR_1_9, sT_2, sT_3, sT_4, sT_5, sT_6, sT_7, sT_8, sT_9, sT_10, sT_11, sT_12, sT_13, sT_14, sR_2_1, sR_2_2, sR_2_3, sR_2_4, sR_2_5, sR_2_6, sR_2_7, sR_2_8, sR_2_9, sR_2_10, sR_2_11, sR_2_12, sT_15, sT_16, sT_17, sT_18, sT_19, sT_20, sT_21, sT_22, sT_23, sR_15_1, sR_15_2, sR_15_3, sR_15_4, sR_15_5, sR_15_6, sR_15_7, sR_15_8, sT_24, sT_25, sT_26, sT_27, sT_28, sT_29, sR_24_1, sR_24_2, sR_24_3, sR_24_4, sR_24_5, sT_71, sT_72, sR_71_0, sR_71_1, sR_71_2, sR_71_3, sR_71_4, sT_73, sT_74, sT_75, sR_73_0, sR_73_1, sR_73_2, sR_73_3, sR_73_4, sR_73_5, sT_84, sT_85, sT_86, sT_87, sR_84_0, sR_84_1, sR_84_2, sR_84_3, sR_84_4, sR_84_5, sT_88, sT_89, sR_88_0, sT_90, sT_91, sR_90_0, hj]
      · rw [hcs, if_neg (by simp [e])]; exact c1
    · by_cases q : sAhd A k (bAt A k j) (bAt A k i) = true
      · refine ⟨([.ref D, .int (nI (nOf A k)), .int (nI i), .int (nI (j + 1))], hSetI h1 D9 i (nI (cntN (fun j => i != j && sAhd A k (bAt A k j) (bAt A k i)) j + 1))), ?_, _, rfl, Fr_trans f1 (Fr_set _ hWi), ?_⟩
        · rw [if_pos q] at ea
          generalize cntN (fun j => i != j && sAhd A k (bAt A k j) (bAt A k i)) j = m at *
          have h10 : ((1 : Int32) = 0) = False := by decide
          simp (disch := first | assumption | omega) [lstp, lc_D_arrange_2, lb_D_arrange_2, lu_D_arrange_2, j_meth, j_out, j_rok, j_pad, lg_sl, s_seq_w, isN_inl, isN_inr, s_if, jb, x_c, x_iloc, x_aloc, x_lloc, x_bin, x_un, o_add, o_sub, o_mul, o_and, o_or, o_xor, o_shl, o_shr, o_ushr, o_max, o_min, o_i2b, o_i2c, o_i2l, o_l2i, x_fld, j_fget, x_idx, j_aget, x_len, j_alen, x_ofb, x_ite, xs_nil, xs_cons, x_callv, x_calls, s_callv, s_calls, j_recv, j_ret, j_retv, b_cmp, b_and, b_or, b_not, b_ofi, b_ite, b_true, s_skip, s_set, j_ty, j_lset, j_kill, s_inc, s_fput, j_fput, s_fop, s_aput, j_aput, j_nar, s_aop, s_ret, s_retv, s_go, s_pop, x_linc, x_finc, Value.category, if_icmp.holds, List.flatMap_cons, List.flatMap_nil, List.length_cons, List.length_append, List.length_nil, List.set_cons_succ, List.set_cons_zero, List.getElem?_cons_succ, List.getElem?_cons_zero, List.replicate, ite_and', ite_or', ite_int', nI_leI, nI_ltI, nI_eq, nI_add, nI_1, pk_mul, nI_clamp, n_in', nI_pos', nI_pos, n_m1e, n_01, n_10, sT_1, sR_1_0, sR_1_1, sR_1_2, sR_1_3, sR_1_4, sR_1_5, sR_1_6, sR_1_7, sR_1_8, sR_1_9, sT_2, sT_3, sT_4, sT_5, sT_6, sT_7, sT_8, sT_9, sT_10, sT_11, sT_12, sT_13, sT_14, sR_2_1, sR_2_2, sR_2_3, sR_2_4, sR_2_5, sR_2_6, sR_2_7, sR_2_8, sR_2_9, sR_2_10, sR_2_11, sR_2_12, sT_15, sT_16, sT_17, sT_18, sT_19, sT_20, sT_21, sT_22, sT_23, sR_15_1, sR_15_2, sR_15_3, sR_15_4, sR_15_5, sR_15_6, sR_15_7, sR_15_8, sT_24, sT_25, sT_26, sT_27, sT_28, sT_29, sR_24_1, sR_24_2, sR_24_3, sR_24_4, sR_24_5, sT_71, sT_72, sR_71_0, sR_71_1, sR_71_2, sR_71_3, sR_71_4, sT_73, sT_74, sT_75, sR_73_0, sR_73_1, sR_73_2, sR_73_3, sR_73_4, sR_73_5, sT_84, sT_85, sT_86, sT_87, sR_84_0, sR_84_1, sR_84_2, sR_84_3, sR_84_4, sR_84_5, sT_88, sT_89, sR_88_0, sT_90, sT_91, sR_90_0, hj, e, b1, b2, ea, t1, r6, n9, t9, c1, h10]
        · rw [hI_setI, if_pos ⟨rfl, rfl⟩, hcs, if_pos (by simp [e, q])]
      · refine ⟨([.ref D, .int (nI (nOf A k)), .int (nI i), .int (nI (j + 1))], h1), ?_, h1, rfl, f1, ?_⟩
        · rw [if_neg q] at ea
          simp (disch := first | assumption | omega) [lstp, lc_D_arrange_2, lb_D_arrange_2, lu_D_arrange_2, j_meth, j_out, j_rok, j_pad, lg_sl, s_seq_w, isN_inl, isN_inr, s_if, jb, x_c, x_iloc, x_aloc, x_lloc, x_bin, x_un, o_add, o_sub, o_mul, o_and, o_or, o_xor, o_shl, o_shr, o_ushr, o_max, o_min, o_i2b, o_i2c, o_i2l, o_l2i, x_fld, j_fget, x_idx, j_aget, x_len, j_alen, x_ofb, x_ite, xs_nil, xs_cons, x_callv, x_calls, s_callv, s_calls, j_recv, j_ret, j_retv, b_cmp, b_and, b_or, b_not, b_ofi, b_ite, b_true, s_skip, s_set, j_ty, j_lset, j_kill, s_inc, s_fput, j_fput, s_fop, s_aput, j_aput, j_nar, s_aop, s_ret, s_retv, s_go, s_pop, x_linc, x_finc, Value.category, if_icmp.holds, List.flatMap_cons, List.flatMap_nil, List.length_cons, List.length_append, List.length_nil, List.set_cons_succ, List.set_cons_zero, List.getElem?_cons_succ, List.getElem?_cons_zero, List.replicate, ite_and', ite_or', ite_int', nI_leI, nI_ltI, nI_eq, nI_add, nI_1, pk_mul, nI_clamp, n_in', nI_pos', nI_pos, n_m1e, n_01, n_10, sT_1, sR_1_0, sR_1_1, sR_1_2, sR_1_3, sR_1_4, sR_1_5, sR_1_6, sR_1_7, sR_1_8, sR_1_9, sT_2, sT_3, sT_4, sT_5, sT_6, sT_7, sT_8, sT_9, sT_10, sT_11, sT_12, sT_13, sT_14, sR_2_1, sR_2_2, sR_2_3, sR_2_4, sR_2_5, sR_2_6, sR_2_7, sR_2_8, sR_2_9, sR_2_10, sR_2_11, sR_2_12, sT_15, sT_16, sT_17, sT_18, sT_19, sT_20, sT_21, sT_22, sT_23, sR_15_1, sR_15_2, sR_15_3, sR_15_4, sR_15_5, sR_15_6, sR_15_7, sR_15_8, sT_24, sT_25, sT_26, sT_27, sT_28, sT_29, sR_24_1, sR_24_2, sR_24_3, sR_24_4, sR_24_5, sT_71, sT_72, sR_71_0, sR_71_1, sR_71_2, sR_71_3, sR_71_4, sT_73, sT_74, sT_75, sR_73_0, sR_73_1, sR_73_2, sR_73_3, sR_73_4, sR_73_5, sT_84, sT_85, sT_86, sT_87, sR_84_0, sR_84_1, sR_84_2, sR_84_3, sR_84_4, sR_84_5, sT_88, sT_89, sR_88_0, sT_90, sT_91, sR_90_0, hj, e, b1, b2, ea, t1, r6, n9, t9, c1]
        · rw [hcs, if_neg (by simp [e, q])]; exact c1
  · rintro st ⟨h1, rfl, f1, c1⟩
    refine ⟨_, ?_, h1, rfl, f1, c1⟩
    simp (disch := first | assumption | omega) [lstp, lc_D_arrange_2, lb_D_arrange_2, lu_D_arrange_2, j_meth, j_out, j_rok, j_pad, lg_sl, s_seq_w, isN_inl, isN_inr, s_if, jb, x_c, x_iloc, x_aloc, x_lloc, x_bin, x_un, o_add, o_sub, o_mul, o_and, o_or, o_xor, o_shl, o_shr, o_ushr, o_max, o_min, o_i2b, o_i2c, o_i2l, o_l2i, x_fld, j_fget, x_idx, j_aget, x_len, j_alen, x_ofb, x_ite, xs_nil, xs_cons, x_callv, x_calls, s_callv, s_calls, j_recv, j_ret, j_retv, b_cmp, b_and, b_or, b_not, b_ofi, b_ite, b_true, s_skip, s_set, j_ty, j_lset, j_kill, s_inc, s_fput, j_fput, s_fop, s_aput, j_aput, j_nar, s_aop, s_ret, s_retv, s_go, s_pop, x_linc, x_finc, Value.category, if_icmp.holds, List.flatMap_cons, List.flatMap_nil, List.length_cons, List.length_append, List.length_nil, List.set_cons_succ, List.set_cons_zero, List.getElem?_cons_succ, List.getElem?_cons_zero, List.replicate, ite_and', ite_or', ite_int', nI_leI, nI_ltI, nI_eq, nI_add, nI_1, pk_mul, nI_clamp, n_in', nI_pos', nI_pos, n_m1e, n_01, n_10, sT_1, sR_1_0, sR_1_1, sR_1_2, sR_1_3, sR_1_4, sR_1_5, sR_1_6, sR_1_7, sR_1_8, sR_1_9, sT_2, sT_3, sT_4, sT_5, sT_6, sT_7, sT_8, sT_9, sT_10, sT_11, sT_12, sT_13, sT_14, sR_2_1, sR_2_2, sR_2_3, sR_2_4, sR_2_5, sR_2_6, sR_2_7, sR_2_8, sR_2_9, sR_2_10, sR_2_11, sR_2_12, sT_15, sT_16, sT_17, sT_18, sT_19, sT_20, sT_21, sT_22, sT_23, sR_15_1, sR_15_2, sR_15_3, sR_15_4, sR_15_5, sR_15_6, sR_15_7, sR_15_8, sT_24, sT_25, sT_26, sT_27, sT_28, sT_29, sR_24_1, sR_24_2, sR_24_3, sR_24_4, sR_24_5, sT_71, sT_72, sR_71_0, sR_71_1, sR_71_2, sR_71_3, sR_71_4, sT_73, sT_74, sT_75, sR_73_0, sR_73_1, sR_73_2, sR_73_3, sR_73_4, sR_73_5, sT_84, sT_85, sT_86, sT_87, sR_84_0, sR_84_1, sR_84_2, sR_84_3, sR_84_4, sR_84_5, sT_88, sT_89, sR_88_0, sT_90, sT_91, sR_90_0]
def Wp9 (k a _j : Nat) : Prop := a = dA k + 9
theorem e_D_arrange_1 {A : AS} {h : jHp} (x : CX A h) {k a : Nat} (hk : k < 4) (d : CD0 A k a h) : ∃ h' L, s_loop 1 2 lc_D_arrange_1 lb_D_arrange_1 lu_D_arrange_1 ([.ref (dA k), .int (nI (nOf A k)), .int (nI 0), .null], h) = some (.inl 0, ([.ref (dA k), .int (nI (nOf A k)), .int (nI (nOf A k)), L], h')) ∧ Fr (Wp9 k) h h' ∧ ∀ i, i < nOf A k → hI h' (dA k + 9) i = nI (plc A k i) := by
  have w := x.2.1
  have h8 := nOf_le w k
  have hL := loop_wp (lb := 1) (lc := 2) (c := lc_D_arrange_1) (b := lb_D_arrange_1) (u := lu_D_arrange_1) (nOf A k)
    (fun i st => ∃ h' L, st = ([.ref (dA k), .int (nI (nOf A k)), .int (nI i), L], h') ∧ Fr (Wp9 k) h h' ∧ ∀ j, j < i → hI h' (dA k + 9) j = nI (plc A k j))
    (fun r => ∃ h' L, r = (.inl 0, ([.ref (dA k), .int (nI (nOf A k)), .int (nI (nOf A k)), L], h')) ∧ Fr (Wp9 k) h h' ∧ ∀ j, j < nOf A k → hI h' (dA k + 9) j = nI (plc A k j))
    ?_ ?_ ([.ref (dA k), .int (nI (nOf A k)), .int (nI 0), .null], h) ⟨h, _, rfl, Fr_refl _ _, fun j hj => by omega⟩
  · obtain ⟨r, e, h', L, rfl, f, c⟩ := hL
    exact ⟨h', L, e, f, c⟩
  · rintro i st hi ⟨h1, L, rfl, f1, c1⟩
    left
    have f2 : Fr (Wp9 k) h1 (hSetI h1 (dA k + 9) i (nI 0)) := Fr_set _ rfl
    have hW : ∀ a j, Wp9 k a j → ¬ cC a j := fun a j q => Wdk_cC hk (Or.inr (Or.inr (Or.inr q)))
    have x2 := CX_fr x (Fr_trans f1 f2) hW
    have d2 := CD0_fr hk d (Fr_trans f1 f2) hW
    have hs1 : Shape h1 := Fr_shape x.1 f1
    obtain ⟨t1, r1, r2, r4, r5, r6, t7, t8, t9, -⟩ := DSh_of hs1 hk
    have n9 : dA k + 9 ≠ 0 := by omega
    have n8 : dA k + 8 ≠ 0 := by omega
    have n7 : dA k + 7 ≠ 0 := by omega
    obtain ⟨h3, e3, f3, c3⟩ := e_D_arrange_2 x2 hk d2 hi (by rw [hI_setI, if_pos ⟨rfl, rfl⟩])
    refine ⟨([.ref (dA k), .int (nI (nOf A k)), .int (nI (i + 1)), .int (nI (nOf A k))], h3), ?_, h3, _, rfl, Fr_trans (Fr_trans f1 f2) (Fr_mono f3 fun a j q => q.1), fun j hj => ?_⟩
    · generalize hD9 : dA k + 9 = D9 at *
      generalize dA k = D at *
      clear f1 f2 f3 x2 d2 c1
      simp only [nI_0] at e3
      simp (disch := first | assumption | omega) [lstp, lc_D_arrange_1, lb_D_arrange_1, lu_D_arrange_1, j_meth, j_out, j_rok, j_pad, lg_sl, s_seq_w, isN_inl, isN_inr, s_if, jb, x_c, x_iloc, x_aloc, x_lloc, x_bin, x_un, o_add, o_sub, o_mul, o_and, o_or, o_xor, o_shl, o_shr, o_ushr, o_max, o_min, o_i2b, o_i2c, o_i2l, o_l2i, x_fld, j_fget, x_idx, j_aget, x_len, j_alen, x_ofb, x_ite, xs_nil, xs_cons, x_callv, x_calls, s_callv, s_calls, j_recv, j_ret, j_retv, b_cmp, b_and, b_or, b_not, b_ofi, b_ite, b_true, s_skip, s_set, j_ty, j_lset, j_kill, s_inc, s_fput, j_fput, s_fop, s_aput, j_aput, j_nar, s_aop, s_ret, s_retv, s_go, s_pop, x_linc, x_finc, Value.category, if_icmp.holds, List.flatMap_cons, List.flatMap_nil, List.length_cons, List.length_append, List.length_nil, List.set_cons_succ, List.set_cons_zero, List.getElem?_cons_succ, List.getElem?_cons_zero, List.replicate, ite_and', ite_or', ite_int', nI_leI, nI_ltI, nI_eq, nI_add, nI_1, pk_mul, nI_clamp, n_in', nI_pos', nI_pos, n_m1e, n_01, n_10, sT_1, sR_1_0, sR_1_1, sR_1_2, sR_1_3, sR_1_4, sR_1_5, sR_1_6, sR_1_7, sR_1_8, sR_1_9, sT_2, sT_3, sT_4, sT_5, sT_6, sT_7, sT_8, sT_9, sT_10, sT_11, sT_12, sT_13, sT_14, sR_2_1, sR_2_2, sR_2_3, sR_2_4, sR_2_5, sR_2_6, sR_2_7, sR_2_8, sR_2_9, sR_2_10, sR_2_11, sR_2_12, sT_15, sT_16, sT_17, sT_18, sT_19, sT_20, sT_21, sT_22, sT_23, sR_15_1, sR_15_2, sR_15_3, sR_15_4, sR_15_5, sR_15_6, sR_15_7, sR_15_8, sT_24, sT_25, sT_26, sT_27, sT_28, sT_29, sR_24_1, sR_24_2, sR_24_3, sR_24_4, sR_24_5, sT_71, sT_72, sR_71_0, sR_71_1, sR_71_2, sR_71_3, sR_71_4, sT_73, sT_74, sT_75, sR_73_0, sR_73_1, sR_73_2, sR_73_3, sR_73_4, sR_73_5, sT_84, sT_85, sT_86, sT_87, sR_84_0, sR_84_1, sR_84_2, sR_84_3, sR_84_4, sR_84_5, sT_88, sT_89, sR_88_0, sT_90, sT_91, sR_90_0, hi, t1, r6, n9, t9, nI_0, e3]
    · by_cases e : j = i
      · rw [e]; exact c3
      · rw [Fr_I f3 fun q => e q.2, hI_setI, if_neg fun q => e q.2]
        exact c1 j (by omega)
  · rintro st ⟨h1, L, rfl, f1, c1⟩
    refine ⟨_, ?_, h1, L, rfl, f1, c1⟩
    simp (disch := first | assumption | omega) [lstp, lc_D_arrange_1, lb_D_arrange_1, lu_D_arrange_1, j_meth, j_out, j_rok, j_pad, lg_sl, s_seq_w, isN_inl, isN_inr, s_if, jb, x_c, x_iloc, x_aloc, x_lloc, x_bin, x_un, o_add, o_sub, o_mul, o_and, o_or, o_xor, o_shl, o_shr, o_ushr, o_max, o_min, o_i2b, o_i2c, o_i2l, o_l2i, x_fld, j_fget, x_idx, j_aget, x_len, j_alen, x_ofb, x_ite, xs_nil, xs_cons, x_callv, x_calls, s_callv, s_calls, j_recv, j_ret, j_retv, b_cmp, b_and, b_or, b_not, b_ofi, b_ite, b_true, s_skip, s_set, j_ty, j_lset, j_kill, s_inc, s_fput, j_fput, s_fop, s_aput, j_aput, j_nar, s_aop, s_ret, s_retv, s_go, s_pop, x_linc, x_finc, Value.category, if_icmp.holds, List.flatMap_cons, List.flatMap_nil, List.length_cons, List.length_append, List.length_nil, List.set_cons_succ, List.set_cons_zero, List.getElem?_cons_succ, List.getElem?_cons_zero, List.replicate, ite_and', ite_or', ite_int', nI_leI, nI_ltI, nI_eq, nI_add, nI_1, pk_mul, nI_clamp, n_in', nI_pos', nI_pos, n_m1e, n_01, n_10, sT_1, sR_1_0, sR_1_1, sR_1_2, sR_1_3, sR_1_4, sR_1_5, sR_1_6, sR_1_7, sR_1_8, sR_1_9, sT_2, sT_3, sT_4, sT_5, sT_6, sT_7, sT_8, sT_9, sT_10, sT_11, sT_12, sT_13, sT_14, sR_2_1, sR_2_2, sR_2_3, sR_2_4, sR_2_5, sR_2_6, sR_2_7, sR_2_8, sR_2_9, sR_2_10, sR_2_11, sR_2_12, sT_15, sT_16, sT_17, sT_18, sT_19, sT_20, sT_21, sT_22, sT_23, sR_15_1, sR_15_2, sR_15_3, sR_15_4, sR_15_5, sR_15_6, sR_15_7, sR_15_8, sT_24, sT_25, sT_26, sT_27, sT_28, sT_29, sR_24_1, sR_24_2, sR_24_3, sR_24_4, sR_24_5, sT_71, sT_72, sR_71_0, sR_71_1, sR_71_2, sR_71_3, sR_71_4, sT_73, sT_74, sT_75, sR_73_0, sR_73_1, sR_73_2, sR_73_3, sR_73_4, sR_73_5, sT_84, sT_85, sT_86, sT_87, sR_84_0, sR_84_1, sR_84_2, sR_84_3, sR_84_4, sR_84_5, sT_88, sT_89, sR_88_0, sT_90, sT_91, sR_90_0]
def Wp8 (k a _j : Nat) : Prop := a = dA k + 8
theorem e_D_arrange_3 {A : AS} {h : jHp} (x : CX A h) {k : Nat} (hk : k < 4) (L : Value) (c9 : ∀ i, i < nOf A k → hI h (dA k + 9) i = nI (plc A k i)) (c8 : hI h (dA k + 8) 0 = nI 0) : ∃ h' M, s_loop 5 6 lc_D_arrange_3 lb_D_arrange_3 lu_D_arrange_3 ([.ref (dA k), .int (nI (nOf A k)), .int (nI 1), L], h) = some (.inl 0, (M, h')) ∧ M.length = 4 ∧ M.getD 0 .null = .ref (dA k) ∧ Fr (Wp8 k) h h' ∧ ∀ P, P < 2 ^ nOf A k → hI h' (dA k + 8) P = nI (wgt A k P) := by
  have w := x.2.1
  have h8 := nOf_le w k
  have hp8 : 2 ^ nOf A k ≤ 256 := Nat.pow_le_pow_right (n := 2) (by decide) h8
  have hp0 := Nat.two_pow_pos (nOf A k)
  have hsn := n_shl 1 (k := nOf A k) (by omega)
  rw [Nat.one_mul] at hsn
  have hL := loop_wp (lb := 5) (lc := 6) (c := lc_D_arrange_3) (b := lb_D_arrange_3) (u := lu_D_arrange_3) (2 ^ nOf A k - 1)
    (fun i st => ∃ h' L, st = ([.ref (dA k), .int (nI (nOf A k)), .int (nI (i + 1)), L], h') ∧ Fr (Wp8 k) h h' ∧ ∀ P, P < i + 1 → hI h' (dA k + 8) P = nI (wgt A k P))
    (fun r => ∃ h' L, r = (.inl 0, ([.ref (dA k), .int (nI (nOf A k)), .int (nI (2 ^ nOf A k)), L], h')) ∧ Fr (Wp8 k) h h' ∧ ∀ P, P < 2 ^ nOf A k → hI h' (dA k + 8) P = nI (wgt A k P))
    ?_ ?_ ([.ref (dA k), .int (nI (nOf A k)), .int (nI 1), L], h) ⟨h, _, rfl, Fr_refl _ _, fun P hP => by
      have : P = 0 := by omega
      rw [this, wgt_0]; exact c8⟩
  · obtain ⟨r, e, h', M, rfl, f, c⟩ := hL
    exact ⟨h', _, e, rfl, rfl, f, c⟩
  · rintro i st hi ⟨h1, L, rfl, f1, c1⟩
    left
    have hs1 : Shape h1 := Fr_shape x.1 f1
    obtain ⟨t1, r1, r2, r4, r5, r6, t7, t8, t9, -⟩ := DSh_of hs1 hk
    have n9 : dA k + 9 ≠ 0 := by omega
    have n8 : dA k + 8 ≠ 0 := by omega
    have n7 : dA k + 7 ≠ 0 := by omega
    have hP : i + 1 < 2 ^ nOf A k := by omega
    obtain ⟨l1, l2⟩ := wgt_low w hP (by omega)
    obtain ⟨m1, -, -⟩ := low_bits (i + 1) (by omega) (by omega)
    have en := e_J_ntz h1 (x := i + 1) (by omega) (by omega)
    have cQ := c1 _ m1
    have cl := c9 _ l1
    rw [← Fr_I f1 (a := dA k + 9) (k := lowN (i + 1)) (by unfold Wp8; omega)] at cl
    have pl := (plc_ok w l1).1
    refine ⟨([.ref (dA k), .int (nI (nOf A k)), .int (nI (i + 1 + 1)), .int (nI (lowN (i + 1)))], hSetI h1 (dA k + 8) (i + 1) (nI (wgt A k (i + 1)))), ?_, _, _, rfl, Fr_trans f1 (Fr_set _ rfl), fun P hP2 => ?_⟩
    · rw [l2]
      have hsu : nI (i + 1) - nI 1 = nI (i + 1 - 1) := pk_sub (by omega)
      have hsp : nI 8 - nI (plc A k (lowN (i + 1))) = nI (8 - plc A k (lowN (i + 1))) := pk_sub (by omega)
      have hsh := n_shl 1 (k := 8 - plc A k (lowN (i + 1))) (by omega)
      rw [Nat.one_mul] at hsh
      have hq : i + 1 < 2 ^ nOf A k := hP
      have hA : nI (i + 1) &&& nI (i + 1 - 1) = nI ((i + 1) &&& (i + 1 - 1)) := n_and _ _
      generalize wgt A k ((i + 1) &&& (i + 1 - 1)) = u at *
      generalize (i + 1) &&& (i + 1 - 1) = Q at *
      generalize plc A k (lowN (i + 1)) = pp at *
      generalize lowN (i + 1) = lo at *
      generalize 2 ^ nOf A k = n2 at *
      generalize dA k + 9 = D9 at *
      generalize dA k + 8 = D8 at *
      generalize dA k = D at *
      clear c1 f1 c9
      generalize hi1 : i + 1 = P at *
      simp (disch := first | assumption | omega) [lstp, lc_D_arrange_3, lb_D_arrange_3, lu_D_arrange_3, j_meth, j_out, j_rok, j_pad, lg_sl, s_seq_w, isN_inl, isN_inr, s_if, jb, x_c, x_iloc, x_aloc, x_lloc, x_bin, x_un, o_add, o_sub, o_mul, o_and, o_or, o_xor, o_shl, o_shr, o_ushr, o_max, o_min, o_i2b, o_i2c, o_i2l, o_l2i, x_fld, j_fget, x_idx, j_aget, x_len, j_alen, x_ofb, x_ite, xs_nil, xs_cons, x_callv, x_calls, s_callv, s_calls, j_recv, j_ret, j_retv, b_cmp, b_and, b_or, b_not, b_ofi, b_ite, b_true, s_skip, s_set, j_ty, j_lset, j_kill, s_inc, s_fput, j_fput, s_fop, s_aput, j_aput, j_nar, s_aop, s_ret, s_retv, s_go, s_pop, x_linc, x_finc, Value.category, if_icmp.holds, List.flatMap_cons, List.flatMap_nil, List.length_cons, List.length_append, List.length_nil, List.set_cons_succ, List.set_cons_zero, List.getElem?_cons_succ, List.getElem?_cons_zero, List.replicate, ite_and', ite_or', ite_int', nI_leI, nI_ltI, nI_eq, nI_add, nI_1, pk_mul, nI_clamp, n_in', nI_pos', nI_pos, n_m1e, n_01, n_10, sT_1, sR_1_0, sR_1_1, sR_1_2, sR_1_3, sR_1_4, sR_1_5, sR_1_6, sR_1_7, sR_1_8, sR_1_9, sT_2, sT_3, sT_4, sT_5, sT_6, sT_7, sT_8, sT_9, sT_10, sT_11, sT_12, sT_13, sT_14, sR_2_1, sR_2_2, sR_2_3, sR_2_4, sR_2_5, sR_2_6, sR_2_7, sR_2_8, sR_2_9, sR_2_10, sR_2_11, sR_2_12, sT_15, sT_16, sT_17, sT_18, sT_19, sT_20, sT_21, sT_22, sT_23, sR_15_1, sR_15_2, sR_15_3, sR_15_4, sR_15_5, sR_15_6, sR_15_7, sR_15_8, sT_24, sT_25, sT_26, sT_27, sT_28, sT_29, sR_24_1, sR_24_2, sR_24_3, sR_24_4, sR_24_5, sT_71, sT_72, sR_71_0, sR_71_1, sR_71_2, sR_71_3, sR_71_4, sT_73, sT_74, sT_75, sR_73_0, sR_73_1, sR_73_2, sR_73_3, sR_73_4, sR_73_5, sT_84, sT_85, sT_86, sT_87, sR_84_0, sR_84_1, sR_84_2, sR_84_3, sR_84_4, sR_84_5, sT_88, sT_89, sR_88_0, sT_90, sT_91, sR_90_0, hq, t1, r6, r5, n8, n9, t8, t9, en, hsn, hsu, hA, hsp, hsh, cQ, cl, n_or]
    · by_cases e : P = i + 1
      · subst e; rw [hI_setI, if_pos ⟨rfl, rfl⟩]
      · rw [hI_setI, if_neg fun q => e q.2]
        exact c1 P (by omega)
  · rintro st ⟨h1, L, rfl, f1, c1⟩
    have e1 : 2 ^ nOf A k - 1 + 1 = 2 ^ nOf A k := by omega
    rw [e1] at c1 ⊢
    refine ⟨_, ?_, h1, L, rfl, f1, c1⟩
    generalize 2 ^ nOf A k = n2 at *
    simp (disch := first | assumption | omega) [lstp, lc_D_arrange_3, lb_D_arrange_3, lu_D_arrange_3, j_meth, j_out, j_rok, j_pad, lg_sl, s_seq_w, isN_inl, isN_inr, s_if, jb, x_c, x_iloc, x_aloc, x_lloc, x_bin, x_un, o_add, o_sub, o_mul, o_and, o_or, o_xor, o_shl, o_shr, o_ushr, o_max, o_min, o_i2b, o_i2c, o_i2l, o_l2i, x_fld, j_fget, x_idx, j_aget, x_len, j_alen, x_ofb, x_ite, xs_nil, xs_cons, x_callv, x_calls, s_callv, s_calls, j_recv, j_ret, j_retv, b_cmp, b_and, b_or, b_not, b_ofi, b_ite, b_true, s_skip, s_set, j_ty, j_lset, j_kill, s_inc, s_fput, j_fput, s_fop, s_aput, j_aput, j_nar, s_aop, s_ret, s_retv, s_go, s_pop, x_linc, x_finc, Value.category, if_icmp.holds, List.flatMap_cons, List.flatMap_nil, List.length_cons, List.length_append, List.length_nil, List.set_cons_succ, List.set_cons_zero, List.getElem?_cons_succ, List.getElem?_cons_zero, List.replicate, ite_and', ite_or', ite_int', nI_leI, nI_ltI, nI_eq, nI_add, nI_1, pk_mul, nI_clamp, n_in', nI_pos', nI_pos, n_m1e, n_01, n_10, sT_1, sR_1_0, sR_1_1, sR_1_2, sR_1_3, sR_1_4, sR_1_5, sR_1_6, sR_1_7, sR_1_8, sR_1_9, sT_2, sT_3, sT_4, sT_5, sT_6, sT_7, sT_8, sT_9, sT_10, sT_11, sT_12, sT_13, sT_14, sR_2_1, sR_2_2, sR_2_3, sR_2_4, sR_2_5, sR_2_6, sR_2_7, sR_2_8, sR_2_9, sR_2_10, sR_2_11, sR_2_12, sT_15, sT_16, sT_17, sT_18, sT_19, sT_20, sT_21, sT_22, sT_23, sR_15_1, sR_15_2, sR_15_3, sR_15_4, sR_15_5, sR_15_6, sR_15_7, sR_15_8, sT_24, sT_25, sT_26, sT_27, sT_28, sT_29, sR_24_1, sR_24_2, sR_24_3, sR_24_4, sR_24_5, sT_71, sT_72, sR_71_0, sR_71_1, sR_71_2, sR_71_3, sR_71_4, sT_73, sT_74, sT_75, sR_73_0, sR_73_1, sR_73_2, sR_73_3, sR_73_4, sR_73_5, sT_84, sT_85, sT_86, sT_87, sR_84_0, sR_84_1, sR_84_2, sR_84_3, sR_84_4, sR_84_5, sT_88, sT_89, sR_88_0, sT_90, sT_91, sR_90_0, hsn]
