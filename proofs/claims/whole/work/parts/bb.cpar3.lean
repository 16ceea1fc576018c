theorem pDig_le {tx : List Nat} {i g d : Nat} (h : pDig tx (48 + g) i = some d) : d ≤ g := by
  unfold pDig at h
  cases ht : tg tx i with
  | none => rw [ht] at h; cases h
  | some c =>
    rw [ht] at h
    simp only at h
    split at h
    · cases h; omega
    · cases h
theorem kpM_app (l : List (Nat × Nat)) (m : Nat × Nat) (k : Nat) : kpM (l ++ [m]) k = if m.1 = k then max (kpM l k) m.2 else kpM l k := by
  unfold kpM
  rw [List.foldl_append]
  rfl
theorem CHc_kep {C : CH} {t : Bool} {a : Nat} {m : Nat × Nat} {h : jHp} (c : CHc C t a h) : CHc (C.1, C.2.1, C.2.2.1, cKeeps C ++ [m], C.2.2.2.2) t a (hSetI h (a + 3) m.1 (nI (max (kpM (cKeeps C) m.1) m.2))) := by
  obtain ⟨c0, c1, c2, c3, c4, c5, c6⟩ := c
  refine ⟨by rw [hI_setI, if_neg (by omega)]; exact c0, by rw [hI_setI, if_neg (by omega)]; exact c1, by rw [hI_setI, if_neg (by omega)]; exact c2, by rw [hI_setI, if_neg (by omega)]; exact c3, fun k hk => ?_, fun k hk => ?_, fun p hp => ?_⟩
  · rw [hI_setI, if_neg (by omega), hI_setI, if_neg (by omega)]; exact c4 k hk
  · show _ = nI (kpM (cKeeps C ++ [m]) k)
    rw [kpM_app, hI_setI]
    by_cases e : k = m.1
    · rw [if_pos ⟨rfl, e⟩, if_pos e.symm, e]
    · rw [if_neg (fun q => e q.2), if_neg (fun q => e q.symm)]
      exact c5 k hk
  · rw [hI_setI, if_neg (by omega), hI_setI, if_neg (by omega)]; exact c6 p hp
theorem e_T_readKept {tx : List Nat} {i a : Nat} {C : CH} {t : Bool} {h : jHp} (r : RT tx i a h) (hi : i < 2 ^ 28) (c : CHc C t a h) (hk : ∀ q ∈ cKeeps C, q.1 < 4 ∧ q.2 ≤ 9) : ∃ h', f_T_readKept [.ref 88] h = some (some (.int (if (pKep tx i).1.isSome then 1 else 0)), h') ∧ RT tx (pKep tx i).2 a h' ∧ Fr (Wtc a) h h' ∧ ∀ m, (pKep tx i).1 = some m → CHc (C.1, C.2.1, C.2.2.1, cKeeps C ++ [m], C.2.2.2.2) t a h' := by
  obtain ⟨h1, e1, r1, f1⟩ := e_T_readDigit r (by omega) (g := 3) (by decide)
  have e51 : 48 + 3 = 51 := rfl
  rw [e51] at e1 r1
  have hs := r.1
  have hs1 := r1.1
  have ha := r.2.2.2.2.2.2
  have hal := CA_lt ha
  cases hp : pDig tx 51 i with
  | none =>
    have hK : pKep tx i = (none, i) := by unfold pKep; rw [hp]
    rw [hK]
    rw [hp] at e1 r1
    rw [oI_n] at e1
    refine ⟨h1, ?_, r1, Fr_mono f1 fun a j q => W882_tc q, fun q hq => by cases hq⟩
    simp (disch := first | assumption | omega) [f_T_readKept, body_T_readKept, j_meth, j_out, j_rok, j_pad, lg_sl, s_seq_w, isN_inl, isN_inr, s_if, jb, x_c, x_iloc, x_aloc, x_lloc, x_bin, x_un, o_add, o_sub, o_mul, o_and, o_or, o_xor, o_shl, o_shr, o_ushr, o_max, o_min, o_i2b, o_i2c, o_i2l, o_l2i, x_fld, j_fget, x_idx, j_aget, x_len, j_alen, x_ofb, x_ite, xs_nil, xs_cons, x_callv, x_calls, s_callv, s_calls, j_recv, j_ret, j_retv, b_cmp, b_and, b_or, b_not, b_ofi, b_ite, b_true, s_skip, s_set, j_ty, j_lset, j_kill, s_inc, s_fput, j_fput, s_fop, s_aput, j_aput, j_nar, s_aop, s_ret, s_retv, s_go, s_pop, x_linc, x_finc, Value.category, if_icmp.holds, List.flatMap_cons, List.flatMap_nil, List.length_cons, List.length_append, List.length_nil, List.set_cons_succ, List.set_cons_zero, List.getElem?_cons_succ, List.getElem?_cons_zero, List.replicate, ite_and', ite_or', ite_int', nI_leI, nI_ltI, nI_eq, nI_add, nI_1, pk_mul, nI_clamp, n_in', nI_pos', nI_pos, n_m1e, n_01, n_10, sT_1, sR_1_0, sR_1_1, sR_1_2, sR_1_3, sR_1_4, sR_1_5, sR_1_6, sR_1_7, sR_1_8, sR_1_9, sT_2, sT_3, sT_4, sT_5, sT_6, sT_7, sT_8, sT_9, sT_10, sT_11, sT_12, sT_13, sT_14, sR_2_1, sR_2_2, sR_2_3, sR_2_4, sR_2_5, sR_2_6, sR_2_7, sR_2_8, sR_2_9, sR_2_10, sR_2_11, sR_2_12, sT_15, sT_16, sT_17, sT_18, sT_19, sT_20, sT_21, sT_22, sT_23, sR_15_1, sR_15_2, sR_15_3, sR_15_4, sR_15_5, sR_15_6, sR_15_7, sR_15_8, sT_24, sT_25, sT_26, sT_27, sT_28, sT_29, sR_24_1, sR_24_2, sR_24_3, sR_24_4, sR_24_5, sT_71, sT_72, sR_71_0, sR_71_1, sR_71_2, sR_71_3, sR_71_4, sT_73, sT_74, sT_75, sR_73_0, sR_73_1, sR_73_2, sR_73_3, sR_73_4, sR_73_5, sT_84, sT_85, sT_86, sT_87, sR_84_0, sR_84_1, sR_84_2, sR_84_3, sR_84_4, sR_84_5, sT_88, sT_89, sR_88_0, sT_90, sT_91, sR_90_0, e1]
    try decide
  | some k =>
    rw [hp] at e1 r1
    rw [oI_s] at e1
    have hk3 := pDig_le (g := 3) hp
    have hne : (nI k = -1) = False := n_m1e (by omega)
    have r1' : RT tx (i + 1) a h1 := r1
    obtain ⟨h2, e2, r2, f2⟩ := e_T_pass r1' (by omega) (c := 42) (by decide)
    have hs2 := r2.1
    by_cases z : tg tx (i + 1) = some 42
    · rw [if_pos z] at e2 r2
      have r2' : RT tx (i + 2) a h2 := r2
      obtain ⟨h3, e3, r3, f3⟩ := e_T_readDigit r2' (by omega) (g := 9) (by decide)
      have e57 : 48 + 9 = 57 := rfl
      rw [e57] at e3 r3
      have hs3 := r3.1
      have f123 := Fr_trans f1 (Fr_trans f2 f3)
      have h10 : ((1 : Int32) = 0) = False := by decide
      cases hp2 : pDig tx 57 (i + 2) with
      | none =>
        have hK : pKep tx i = (none, i + 2) := by unfold pKep; rw [hp]; simp only; rw [if_pos z, hp2]
        rw [hK]
        rw [hp2] at e3 r3
        rw [oI_n] at e3
        refine ⟨h3, ?_, r3, Fr_mono f123 fun a j q => W882_tc q, fun q hq => by cases hq⟩
        simp (disch := first | assumption | omega) [f_T_readKept, body_T_readKept, j_meth, j_out, j_rok, j_pad, lg_sl, s_seq_w, isN_inl, isN_inr, s_if, jb, x_c, x_iloc, x_aloc, x_lloc, x_bin, x_un, o_add, o_sub, o_mul, o_and, o_or, o_xor, o_shl, o_shr, o_ushr, o_max, o_min, o_i2b, o_i2c, o_i2l, o_l2i, x_fld, j_fget, x_idx, j_aget, x_len, j_alen, x_ofb, x_ite, xs_nil, xs_cons, x_callv, x_calls, s_callv, s_calls, j_recv, j_ret, j_retv, b_cmp, b_and, b_or, b_not, b_ofi, b_ite, b_true, s_skip, s_set, j_ty, j_lset, j_kill, s_inc, s_fput, j_fput, s_fop, s_aput, j_aput, j_nar, s_aop, s_ret, s_retv, s_go, s_pop, x_linc, x_finc, Value.category, if_icmp.holds, List.flatMap_cons, List.flatMap_nil, List.length_cons, List.length_append, List.length_nil, List.set_cons_succ, List.set_cons_zero, List.getElem?_cons_succ, List.getElem?_cons_zero, List.replicate, ite_and', ite_or', ite_int', nI_leI, nI_ltI, nI_eq, nI_add, nI_1, pk_mul, nI_clamp, n_in', nI_pos', nI_pos, n_m1e, n_01, n_10, sT_1, sR_1_0, sR_1_1, sR_1_2, sR_1_3, sR_1_4, sR_1_5, sR_1_6, sR_1_7, sR_1_8, sR_1_9, sT_2, sT_3, sT_4, sT_5, sT_6, sT_7, sT_8, sT_9, sT_10, sT_11, sT_12, sT_13, sT_14, sR_2_1, sR_2_2, sR_2_3, sR_2_4, sR_2_5, sR_2_6, sR_2_7, sR_2_8, sR_2_9, sR_2_10, sR_2_11, sR_2_12, sT_15, sT_16, sT_17, sT_18, sT_19, sT_20, sT_21, sT_22, sT_23, sR_15_1, sR_15_2, sR_15_3, sR_15_4, sR_15_5, sR_15_6, sR_15_7, sR_15_8, sT_24, sT_25, sT_26, sT_27, sT_28, sT_29, sR_24_1, sR_24_2, sR_24_3, sR_24_4, sR_24_5, sT_71, sT_72, sR_71_0, sR_71_1, sR_71_2, sR_71_3, sR_71_4, sT_73, sT_74, sT_75, sR_73_0, sR_73_1, sR_73_2, sR_73_3, sR_73_4, sR_73_5, sT_84, sT_85, sT_86, sT_87, sR_84_0, sR_84_1, sR_84_2, sR_84_3, sR_84_4, sR_84_5, sT_88, sT_89, sR_88_0, sT_90, sT_91, sR_90_0, e1, hne, e2, h10, e3]
        try decide
      | some v =>
        have hK : pKep tx i = (some (k, v), i + 3) := by unfold pKep; rw [hp]; simp only; rw [if_pos z, hp2]
        rw [hK]
        rw [hp2] at e3 r3
        rw [oI_s] at e3
        have hv9 := pDig_le (g := 9) hp2
        have hne2 : (nI v = -1) = False := n_m1e (by omega)
        have r3' : RT tx (i + 3) a h3 := r3
        have c3 := CHc_882 ha c f123
        have hR := r3.2.2.2.2.2.1
        obtain ⟨u0, -, -, u6, -, -, -, -, t6, -⟩ := CA_of hs3 ha
        have ha0 : a ≠ 0 := by omega
        have a3 := c3.2.2.2.2.2.1 k (by omega)
        have hkl := kpM_le hk k
        have hmax : (if nI (kpM (cKeeps C) k) < nI v then nI v else nI (kpM (cKeeps C) k)) = nI (max (kpM (cKeeps C) k) v) := by
          by_cases q : nI (kpM (cKeeps C) k) < nI v
          · rw [if_pos q]
            rw [nI_ltI (by omega) (by omega)] at q
            congr 1; omega
          · rw [if_neg q]
            rw [nI_ltI (by omega) (by omega)] at q
            congr 1; omega
        have f4 : Fr (Wtc a) h3 (hSetI h3 (a + 3) k (nI (max (kpM (cKeeps C) k) v))) := Fr_set _ (Or.inr ⟨by omega, by omega⟩)
        refine ⟨hSetI h3 (a + 3) k (nI (max (kpM (cKeeps C) k) v)), ?_, RT_fr (W := fun b _ => b = a + 3) r3' (Fr_set _ rfl) (fun b j z => by omega), Fr_trans (Fr_mono f123 fun a j q => W882_tc q) f4, fun q hq => ?_⟩
        · rw [← hmax]
          generalize kpM (cKeeps C) k = kp at *
          have n3 : a + 3 ≠ 0 := by omega
          clear hmax f4
          by_cases q : kp < v
          · simp (disch := first | assumption | omega) [f_T_readKept, body_T_readKept, j_meth, j_out, j_rok, j_pad, lg_sl, s_seq_w, isN_inl, isN_inr, s_if, jb, x_c, x_iloc, x_aloc, x_lloc, x_bin, x_un, o_add, o_sub, o_mul, o_and, o_or, o_xor, o_shl, o_shr, o_ushr, o_max, o_min, o_i2b, o_i2c, o_i2l, o_l2i, x_fld, j_fget, x_idx, j_aget, x_len, j_alen, x_ofb, x_ite, xs_nil, xs_cons, x_callv, x_calls, s_callv, s_calls, j_recv, j_ret, j_retv, b_cmp, b_and, b_or, b_not, b_ofi, b_ite, b_true, s_skip, s_set, j_ty, j_lset, j_kill, s_inc, s_fput, j_fput, s_fop, s_aput, j_aput, j_nar, s_aop, s_ret, s_retv, s_go, s_pop, x_linc, x_finc, Value.category, if_icmp.holds, List.flatMap_cons, List.flatMap_nil, List.length_cons, List.length_append, List.length_nil, List.set_cons_succ, List.set_cons_zero, List.getElem?_cons_succ, List.getElem?_cons_zero, List.replicate, ite_and', ite_or', ite_int', nI_leI, nI_ltI, nI_eq, nI_add, nI_1, pk_mul, nI_clamp, n_in', nI_pos', nI_pos, n_m1e, n_01, n_10, sT_1, sR_1_0, sR_1_1, sR_1_2, sR_1_3, sR_1_4, sR_1_5, sR_1_6, sR_1_7, sR_1_8, sR_1_9, sT_2, sT_3, sT_4, sT_5, sT_6, sT_7, sT_8, sT_9, sT_10, sT_11, sT_12, sT_13, sT_14, sR_2_1, sR_2_2, sR_2_3, sR_2_4, sR_2_5, sR_2_6, sR_2_7, sR_2_8, sR_2_9, sR_2_10, sR_2_11, sR_2_12, sT_15, sT_16, sT_17, sT_18, sT_19, sT_20, sT_21, sT_22, sT_23, sR_15_1, sR_15_2, sR_15_3, sR_15_4, sR_15_5, sR_15_6, sR_15_7, sR_15_8, sT_24, sT_25, sT_26, sT_27, sT_28, sT_29, sR_24_1, sR_24_2, sR_24_3, sR_24_4, sR_24_5, sT_71, sT_72, sR_71_0, sR_71_1, sR_71_2, sR_71_3, sR_71_4, sT_73, sT_74, sT_75, sR_73_0, sR_73_1, sR_73_2, sR_73_3, sR_73_4, sR_73_5, sT_84, sT_85, sT_86, sT_87, sR_84_0, sR_84_1, sR_84_2, sR_84_3, sR_84_4, sR_84_5, sT_88, sT_89, sR_88_0, sT_90, sT_91, sR_90_0, e1, hne, e2, h10, e3, hne2, hR, ha0, u0, u6, n3, t6, a3, q, n_e1]
          · simp (disch := first | assumption | omega) [f_T_readKept, body_T_readKept, j_meth, j_out, j_rok, j_pad, lg_sl, s_seq_w, isN_inl, isN_inr, s_if, jb, x_c, x_iloc, x_aloc, x_lloc, x_bin, x_un, o_add, o_sub, o_mul, o_and, o_or, o_xor, o_shl, o_shr, o_ushr, o_max, o_min, o_i2b, o_i2c, o_i2l, o_l2i, x_fld, j_fget, x_idx, j_aget, x_len, j_alen, x_ofb, x_ite, xs_nil, xs_cons, x_callv, x_calls, s_callv, s_calls, j_recv, j_ret, j_retv, b_cmp, b_and, b_or, b_not, b_ofi, b_ite, b_true, s_skip, s_set, j_ty, j_lset, j_kill, s_inc, s_fput, j_fput, s_fop, s_aput, j_aput, j_nar, s_aop, s_ret, s_retv, s_go, s_pop, x_linc, x_finc, Value.category, if_icmp.holds, List.flatMap_cons, List.flatMap_nil, List.length_cons, List.length_append, List.length_nil, List.set_cons_succ, List.set_cons_zero, List.getElem?_cons_succ, List.getElem?_cons_zero, List.replicate, ite_and', ite_or', ite_int', nI_leI, nI_ltI, nI_eq, nI_add, nI_1, pk_mul, nI_clamp, n_in', nI_pos', nI_pos, n_m1e, n_01, n_10, sT_1, sR_1_0, sR_1_1, sR_1_2, sR_1_3, sR_1_4, sR_1_5, sR_1_6, sR_1_7, sR_1_8, sR_1_9, sT_2, sT_3, sT_4, sT_5, sT_6, sT_7, sT_8, sT_9, sT_10, sT_11, sT_12, sT_13, sT_14, sR_2_1, sR_2_2, sR_2_3, sR_2_4, sR_2_5, sR_2_6, sR_2_7, sR_2_8, sR_2_9, sR_2_10, sR_2_11, sR_2_12, sT_15, sT_16, sT_17, sT_18, sT_19, sT_20, sT_21, sT_22, sT_23, sR_15_1, sR_15_2, sR_15_3, sR_15_4, sR_15_5, sR_15_6, sR_15_7, sR_15_8, sT_24, sT_25, sT_26, sT_27, sT_28, sT_29, sR_24_1, sR_24_2, sR_24_3, sR_24_4, sR_24_5, sT_71, sT_72, sR_71_0, sR_71_1, sR_71_2, sR_71_3, sR_71_4, sT_73, sT_74, sT_75, sR_73_0, sR_73_1, sR_73_2, sR_73_3, sR_73_4, sR_73_5, sT_84, sT_85, sT_86, sT_87, sR_84_0, sR_84_1, sR_84_2, sR_84_3, sR_84_4, sR_84_5, sT_88, sT_89, sR_88_0, sT_90, sT_91, sR_90_0, e1, hne, e2, h10, e3, hne2, hR, ha0, u0, u6, n3, t6, a3, q, n_e1]
        · simp only [Option.some.injEq] at hq
          subst hq
          exact CHc_kep (m := (k, v)) c3
    · have hK : pKep tx i = (none, i + 1) := by unfold pKep; rw [hp]; simp only; rw [if_neg z]
      rw [hK]
      rw [if_neg z] at e2 r2
      refine ⟨h2, ?_, r2, Fr_mono (Fr_trans f1 f2) fun a j q => W882_tc q, fun q hq => by cases hq⟩
      simp (disch := first | assumption | omega) [f_T_readKept, body_T_readKept, j_meth, j_out, j_rok, j_pad, lg_sl, s_seq_w, isN_inl, isN_inr, s_if, jb, x_c, x_iloc, x_aloc, x_lloc, x_bin, x_un, o_add, o_sub, o_mul, o_and, o_or, o_xor, o_shl, o_shr, o_ushr, o_max, o_min, o_i2b, o_i2c, o_i2l, o_l2i, x_fld, j_fget, x_idx, j_aget, x_len, j_alen, x_ofb, x_ite, xs_nil, xs_cons, x_callv, x_calls, s_callv, s_calls, j_recv, j_ret, j_retv, b_cmp, b_and, b_or, b_not, b_ofi, b_ite, b_true, s_skip, s_set, j_ty, j_lset, j_kill, s_inc, s_fput, j_fput, s_fop, s_aput, j_aput, j_nar, s_aop, s_ret, s_retv, s_go, s_pop, x_linc, x_finc, Value.category, if_icmp.holds, List.flatMap_cons, List.flatMap_nil, List.length_cons, List.length_append, List.length_nil, List.set_cons_succ, List.set_cons_zero, List.getElem?_cons_succ, List.getElem?_cons_zero, List.replicate, ite_and', ite_or', ite_int', nI_leI, nI_ltI, nI_eq, nI_add, nI_1, pk_mul, nI_clamp, n_in', nI_pos', nI_pos, n_m1e, n_01, n_10, sT_1, sR_1_0, sR_1_1, sR_1_2, sR_1_3, sR_1_4, sR_1_5, sR_1_6, sR_1_7, sR_1_8, sR_1_9, sT_2, sT_3, sT_4, sT_5, sT_6, sT_7, sT_8, sT_9, sT_10, sT_11, sT_12, sT_13, sT_14, sR_2_1, sR_2_2, sR_2_3, sR_2_4, sR_2_5, sR_2_6, sR_2_7, sR_2_8, sR_2_9, sR_2_10, sR_2_11, sR_2_12, sT_15, sT_16, sT_17, sT_18, sT_19, sT_20, sT_21, sT_22, sT_23, sR_15_1, sR_15_2, sR_15_3, sR_15_4, sR_15_5, sR_15_6, sR_15_7, sR_15_8, sT_24, sT_25, sT_26, sT_27, sT_28, sT_29, sR_24_1, sR_24_2, sR_24_3, sR_24_4, sR_24_5, sT_71, sT_72, sR_71_0, sR_71_1, sR_71_2, sR_71_3, sR_71_4, sT_73, sT_74, sT_75, sR_73_0, sR_73_1, sR_73_2, sR_73_3, sR_73_4, sR_73_5, sT_84, sT_85, sT_86, sT_87, sR_84_0, sR_84_1, sR_84_2, sR_84_3, sR_84_4, sR_84_5, sT_88, sT_89, sR_88_0, sT_90, sT_91, sR_90_0, e1, hne, e2]
      try decide
theorem twM_app (l : List Nat) (m p : Nat) : twM (l ++ [m]) p = if m.testBit p then twM l p ||| (m ^^^ 2 ^ p) else twM l p := by
  unfold twM
  rw [List.foldl_append]
  rfl
theorem two_x {x y : Nat} (h : x ≠ y) (p : Nat) (l : List Nat) : twM (l ++ [2 ^ x ||| 2 ^ y]) p = if p = y then twM l y ||| 2 ^ x else if p = x then twM l x ||| 2 ^ y else twM l p := by
  rw [twM_app]
  have hb : (2 ^ x ||| 2 ^ y).testBit p = (decide (x = p) || decide (y = p)) := tw2_bit x y p
  rw [hb]
  have e1 : ∀ {u v : Nat}, u ≠ v → (2 ^ u ||| 2 ^ v) ^^^ 2 ^ u = 2 ^ v := fun {u v} huv => by
    apply Nat.eq_of_testBit_eq
    intro j
    rw [Nat.testBit_xor, tw2_bit, Nat.testBit_two_pow, Nat.testBit_two_pow]
    by_cases q1 : u = j
    · have : ¬ v = j := fun z => huv (q1.trans z.symm)
      simp [q1, this]
    · simp [q1]
  by_cases q1 : p = y
  · rw [if_pos q1, q1, if_pos (by simp), Nat.or_comm (2 ^ x), e1 (fun z => h z.symm)]
  · rw [if_neg q1]
    by_cases q2 : p = x
    · rw [if_pos q2, q2, if_pos (by simp), e1 h]
    · rw [if_neg q2, if_neg]
      have z1 : ¬ x = p := fun z => q2 z.symm
      have z2 : ¬ y = p := fun z => q1 z.symm
      simp [z1, z2]
theorem CHc_both {C : CH} {t : Bool} {a x y : Nat} {h : jHp} (hxy : x ≠ y) (c : CHc C t a h) : CHc (C.1, C.2.1, C.2.2.1, C.2.2.2.1, cBoths C ++ [2 ^ x ||| 2 ^ y], C.2.2.2.2.2) t a (hSetI (hSetI h (a + 4) x (nI (twM (cBoths C) x ||| 2 ^ y))) (a + 4) y (nI (twM (cBoths C) y ||| 2 ^ x))) := by
  obtain ⟨c0, c1, c2, c3, c4, c5, c6⟩ := c
  have g : ∀ b j, b ≠ a + 4 → hI (hSetI (hSetI h (a + 4) x (nI (twM (cBoths C) x ||| 2 ^ y))) (a + 4) y (nI (twM (cBoths C) y ||| 2 ^ x))) b j = hI h b j := fun b j hb => by rw [hI_setI, if_neg (fun q => hb q.1), hI_setI, if_neg (fun q => hb q.1)]
  refine ⟨by rw [g _ _ (by omega)]; exact c0, by rw [g _ _ (by omega)]; exact c1, by rw [g _ _ (by omega)]; exact c2, by rw [g _ _ (by omega)]; exact c3, fun k hk => ?_, fun k hk => ?_, fun p hp => ?_⟩
  · rw [g _ _ (by omega), g _ _ (by omega)]; exact c4 k hk
  · rw [g _ _ (by omega)]; exact c5 k hk
  · refine ⟨?_, by rw [g _ _ (by omega)]; exact (c6 p hp).2⟩
    show _ = nI (twM (cBoths C ++ [2 ^ x ||| 2 ^ y]) p)
    rw [two_x hxy, hI_setI, hI_setI]
    by_cases q1 : p = y
    · rw [if_pos ⟨rfl, q1⟩, if_pos q1]
    · rw [if_neg (fun z => q1 z.2), if_neg q1]
      by_cases q2 : p = x
      · rw [if_pos ⟨rfl, q2⟩, if_pos q2]
      · rw [if_neg (fun z => q2 z.2), if_neg q2]
        exact (c6 p hp).1
theorem CHc_nev {C : CH} {t : Bool} {a x y : Nat} {h : jHp} (hxy : x ≠ y) (c : CHc C t a h) : CHc (C.1, C.2.1, C.2.2.1, C.2.2.2.1, C.2.2.2.2.1, cNevers C ++ [2 ^ x ||| 2 ^ y]) t a (hSetI (hSetI h (a + 5) x (nI (twM (cNevers C) x ||| 2 ^ y))) (a + 5) y (nI (twM (cNevers C) y ||| 2 ^ x))) := by
  obtain ⟨c0, c1, c2, c3, c4, c5, c6⟩ := c
  have g : ∀ b j, b ≠ a + 5 → hI (hSetI (hSetI h (a + 5) x (nI (twM (cNevers C) x ||| 2 ^ y))) (a + 5) y (nI (twM (cNevers C) y ||| 2 ^ x))) b j = hI h b j := fun b j hb => by rw [hI_setI, if_neg (fun q => hb q.1), hI_setI, if_neg (fun q => hb q.1)]
  refine ⟨by rw [g _ _ (by omega)]; exact c0, by rw [g _ _ (by omega)]; exact c1, by rw [g _ _ (by omega)]; exact c2, by rw [g _ _ (by omega)]; exact c3, fun k hk => ?_, fun k hk => ?_, fun p hp => ?_⟩
  · rw [g _ _ (by omega), g _ _ (by omega)]; exact c4 k hk
  · rw [g _ _ (by omega)]; exact c5 k hk
  · refine ⟨by rw [g _ _ (by omega)]; exact (c6 p hp).1, ?_⟩
    show _ = nI (twM (cNevers C ++ [2 ^ x ||| 2 ^ y]) p)
    rw [two_x hxy, hI_setI, hI_setI]
    by_cases q1 : p = y
    · rw [if_pos ⟨rfl, q1⟩, if_pos q1]
    · rw [if_neg (fun z => q1 z.2), if_neg q1]
      by_cases q2 : p = x
      · rw [if_pos ⟨rfl, q2⟩, if_pos q2]
      · rw [if_neg (fun z => q2 z.2), if_neg q2]
        exact (c6 p hp).2
theorem nx_sub {tx : List Nat} (hb : ∀ x ∈ tx, x < 256) (i : Nat) {a : Nat} (ha : a < 100) : (nx tx i - nI 48 = nI a) = (tg tx i = some (48 + a)) := by
  rw [← nx_eq hb i (c := 48 + a) (by omega)]
  apply propext
  constructor
  · intro h
    have : nx tx i = nI a + nI 48 := by rw [← h]; simp
    rw [this, nI_add]
    congr 1
    omega
  · intro h
    rw [h, pk_sub (by omega)]
    congr 1
    omega
/-- readTwo, with what the array at P holds -/
theorem e_T_readTwo {tx : List Nat} {i a P sg : Nat} {g : Nat → Nat} {h : jHp} (r : RT tx i a h) (hi : i < 2 ^ 28) (hP : a ≤ P ∧ P ≤ a + 5) (hsg : sg < 256) (tP : hT h P = (1, 7)) (cg : ∀ p, p < 7 → hI h P p = nI (g p)) : ∃ h', f_T_readTwo [.ref 88, .int (nI sg), .ref P] h = some (some (.int (if (pTwo tx sg i).1.isSome then 1 else 0)), h') ∧ RT tx (pTwo tx sg i).2 a h' ∧ Fr (Wtc a) h h' ∧ ∀ m, (pTwo tx sg i).1 = some m → ∃ x y h1, x < 7 ∧ y < 7 ∧ x ≠ y ∧ m = 2 ^ x ||| 2 ^ y ∧ Fr W882 h h1 ∧ h' = hSetI (hSetI h1 P x (nI (g x ||| 2 ^ y))) P y (nI (g y ||| 2 ^ x)) := by
  obtain ⟨h1, e1, r1, f1⟩ := e_T_readDigit r (by omega) (g := 6) (by decide)
  have e54 : 48 + 6 = 54 := rfl
  rw [e54] at e1 r1
  have hs := r.1
  have hs1 := r1.1
  have ha := r.2.2.2.2.2.2
  have hal := CA_lt ha
  cases hp : pDig tx 54 i with
  | none =>
    have hK : pTwo tx sg i = (none, i) := by unfold pTwo; rw [hp]
    rw [hK]
    rw [hp] at e1 r1
    rw [oI_n] at e1
    refine ⟨h1, ?_, r1, Fr_mono f1 fun a j q => W882_tc q, fun q hq => by cases hq⟩
    simp (disch := first | assumption | omega) [f_T_readTwo, body_T_readTwo, j_meth, j_out, j_rok, j_pad, lg_sl, s_seq_w, isN_inl, isN_inr, s_if, jb, x_c, x_iloc, x_aloc, x_lloc, x_bin, x_un, o_add, o_sub, o_mul, o_and, o_or, o_xor, o_shl, o_shr, o_ushr, o_max, o_min, o_i2b, o_i2c, o_i2l, o_l2i, x_fld, j_fget, x_idx, j_aget, x_len, j_alen, x_ofb, x_ite, xs_nil, xs_cons, x_callv, x_calls, s_callv, s_calls, j_recv, j_ret, j_retv, b_cmp, b_and, b_or, b_not, b_ofi, b_ite, b_true, s_skip, s_set, j_ty, j_lset, j_kill, s_inc, s_fput, j_fput, s_fop, s_aput, j_aput, j_nar, s_aop, s_ret, s_retv, s_go, s_pop, x_linc, x_finc, Value.category, if_icmp.holds, List.flatMap_cons, List.flatMap_nil, List.length_cons, List.length_append, List.length_nil, List.set_cons_succ, List.set_cons_zero, List.getElem?_cons_succ, List.getElem?_cons_zero, List.replicate, ite_and', ite_or', ite_int', nI_leI, nI_ltI, nI_eq, nI_add, nI_1, pk_mul, nI_clamp, n_in', nI_pos', nI_pos, n_m1e, n_01, n_10, sT_1, sR_1_0, sR_1_1, sR_1_2, sR_1_3, sR_1_4, sR_1_5, sR_1_6, sR_1_7, sR_1_8, sR_1_9, sT_2, sT_3, sT_4, sT_5, sT_6, sT_7, sT_8, sT_9, sT_10, sT_11, sT_12, sT_13, sT_14, sR_2_1, sR_2_2, sR_2_3, sR_2_4, sR_2_5, sR_2_6, sR_2_7, sR_2_8, sR_2_9, sR_2_10, sR_2_11, sR_2_12, sT_15, sT_16, sT_17, sT_18, sT_19, sT_20, sT_21, sT_22, sT_23, sR_15_1, sR_15_2, sR_15_3, sR_15_4, sR_15_5, sR_15_6, sR_15_7, sR_15_8, sT_24, sT_25, sT_26, sT_27, sT_28, sT_29, sR_24_1, sR_24_2, sR_24_3, sR_24_4, sR_24_5, sT_71, sT_72, sR_71_0, sR_71_1, sR_71_2, sR_71_3, sR_71_4, sT_73, sT_74, sT_75, sR_73_0, sR_73_1, sR_73_2, sR_73_3, sR_73_4, sR_73_5, sT_84, sT_85, sT_86, sT_87, sR_84_0, sR_84_1, sR_84_2, sR_84_3, sR_84_4, sR_84_5, sT_88, sT_89, sR_88_0, sT_90, sT_91, sR_90_0, e1]
    try decide
  | some x =>
    rw [hp] at e1 r1
    rw [oI_s] at e1
    have hx6 := pDig_le (g := 6) hp
    have hne : (nI x = -1) = False := n_m1e (by omega)
    have r1' : RT tx (i + 1) a h1 := r1
    obtain ⟨h2, e2, r2, f2⟩ := e_T_pass r1' (by omega) (c := sg) hsg
    have hs2 := r2.1
    have h10 : ((1 : Int32) = 0) = False := by decide
    by_cases z : tg tx (i + 1) = some sg
    · rw [if_pos z] at e2 r2
      have r2' : RT tx (i + 2) a h2 := r2
      have en := e_T_next r2' (by omega)
      have hnx := nx_sub r.2.1.2 (i + 2) (a := x) (by omega)
      by_cases z2 : tg tx (i + 2) = some (48 + x)
      · have hK : pTwo tx sg i = (none, i + 2) := by unfold pTwo; rw [hp]; simp only; rw [if_pos z, if_pos z2]
        rw [hK]
        refine ⟨h2, ?_, r2', Fr_mono (Fr_trans f1 f2) fun a j q => W882_tc q, fun q hq => by cases hq⟩
        generalize nx tx (i + 2) = v at *
        simp (disch := first | assumption | omega) [f_T_readTwo, body_T_readTwo, j_meth, j_out, j_rok, j_pad, lg_sl, s_seq_w, isN_inl, isN_inr, s_if, jb, x_c, x_iloc, x_aloc, x_lloc, x_bin, x_un, o_add, o_sub, o_mul, o_and, o_or, o_xor, o_shl, o_shr, o_ushr, o_max, o_min, o_i2b, o_i2c, o_i2l, o_l2i, x_fld, j_fget, x_idx, j_aget, x_len, j_alen, x_ofb, x_ite, xs_nil, xs_cons, x_callv, x_calls, s_callv, s_calls, j_recv, j_ret, j_retv, b_cmp, b_and, b_or, b_not, b_ofi, b_ite, b_true, s_skip, s_set, j_ty, j_lset, j_kill, s_inc, s_fput, j_fput, s_fop, s_aput, j_aput, j_nar, s_aop, s_ret, s_retv, s_go, s_pop, x_linc, x_finc, Value.category, if_icmp.holds, List.flatMap_cons, List.flatMap_nil, List.length_cons, List.length_append, List.length_nil, List.set_cons_succ, List.set_cons_zero, List.getElem?_cons_succ, List.getElem?_cons_zero, List.replicate, ite_and', ite_or', ite_int', nI_leI, nI_ltI, nI_eq, nI_add, nI_1, pk_mul, nI_clamp, n_in', nI_pos', nI_pos, n_m1e, n_01, n_10, sT_1, sR_1_0, sR_1_1, sR_1_2, sR_1_3, sR_1_4, sR_1_5, sR_1_6, sR_1_7, sR_1_8, sR_1_9, sT_2, sT_3, sT_4, sT_5, sT_6, sT_7, sT_8, sT_9, sT_10, sT_11, sT_12, sT_13, sT_14, sR_2_1, sR_2_2, sR_2_3, sR_2_4, sR_2_5, sR_2_6, sR_2_7, sR_2_8, sR_2_9, sR_2_10, sR_2_11, sR_2_12, sT_15, sT_16, sT_17, sT_18, sT_19, sT_20, sT_21, sT_22, sT_23, sR_15_1, sR_15_2, sR_15_3, sR_15_4, sR_15_5, sR_15_6, sR_15_7, sR_15_8, sT_24, sT_25, sT_26, sT_27, sT_28, sT_29, sR_24_1, sR_24_2, sR_24_3, sR_24_4, sR_24_5, sT_71, sT_72, sR_71_0, sR_71_1, sR_71_2, sR_71_3, sR_71_4, sT_73, sT_74, sT_75, sR_73_0, sR_73_1, sR_73_2, sR_73_3, sR_73_4, sR_73_5, sT_84, sT_85, sT_86, sT_87, sR_84_0, sR_84_1, sR_84_2, sR_84_3, sR_84_4, sR_84_5, sT_88, sT_89, sR_88_0, sT_90, sT_91, sR_90_0, e1, hne, e2, h10, en, hnx, z2]
        try decide
      · obtain ⟨h3, e3, r3, f3⟩ := e_T_readDigit r2' (by omega) (g := 6) (by decide)
        rw [e54] at e3 r3
        have hs3 := r3.1
        have f123 := Fr_trans f1 (Fr_trans f2 f3)
        cases hp2 : pDig tx 54 (i + 2) with
        | none =>
          have hK : pTwo tx sg i = (none, i + 2) := by unfold pTwo; rw [hp]; simp only; rw [if_pos z, if_neg z2, hp2]
          rw [hK]
          rw [hp2] at e3 r3
          rw [oI_n] at e3
          refine ⟨h3, ?_, r3, Fr_mono f123 fun a j q => W882_tc q, fun q hq => by cases hq⟩
          generalize nx tx (i + 2) = v at *
          simp (disch := first | assumption | omega) [f_T_readTwo, body_T_readTwo, j_meth, j_out, j_rok, j_pad, lg_sl, s_seq_w, isN_inl, isN_inr, s_if, jb, x_c, x_iloc, x_aloc, x_lloc, x_bin, x_un, o_add, o_sub, o_mul, o_and, o_or, o_xor, o_shl, o_shr, o_ushr, o_max, o_min, o_i2b, o_i2c, o_i2l, o_l2i, x_fld, j_fget, x_idx, j_aget, x_len, j_alen, x_ofb, x_ite, xs_nil, xs_cons, x_callv, x_calls, s_callv, s_calls, j_recv, j_ret, j_retv, b_cmp, b_and, b_or, b_not, b_ofi, b_ite, b_true, s_skip, s_set, j_ty, j_lset, j_kill, s_inc, s_fput, j_fput, s_fop, s_aput, j_aput, j_nar, s_aop, s_ret, s_retv, s_go, s_pop, x_linc, x_finc, Value.category, if_icmp.holds, List.flatMap_cons, List.flatMap_nil, List.length_cons, List.length_append, List.length_nil, List.set_cons_succ, List.set_cons_zero, List.getElem?_cons_succ, List.getElem?_cons_zero, List.replicate, ite_and', ite_or', ite_int', nI_leI, nI_ltI, nI_eq, nI_add, nI_1, pk_mul, nI_clamp, n_in', nI_pos', nI_pos, n_m1e, n_01, n_10, sT_1, sR_1_0, sR_1_1, sR_1_2, sR_1_3, sR_1_4, sR_1_5, sR_1_6, sR_1_7, sR_1_8, sR_1_9, sT_2, sT_3, sT_4, sT_5, sT_6, sT_7, sT_8, sT_9, sT_10, sT_11, sT_12, sT_13, sT_14, sR_2_1, sR_2_2, sR_2_3, sR_2_4, sR_2_5, sR_2_6, sR_2_7, sR_2_8, sR_2_9, sR_2_10, sR_2_11, sR_2_12, sT_15, sT_16, sT_17, sT_18, sT_19, sT_20, sT_21, sT_22, sT_23, sR_15_1, sR_15_2, sR_15_3, sR_15_4, sR_15_5, sR_15_6, sR_15_7, sR_15_8, sT_24, sT_25, sT_26, sT_27, sT_28, sT_29, sR_24_1, sR_24_2, sR_24_3, sR_24_4, sR_24_5, sT_71, sT_72, sR_71_0, sR_71_1, sR_71_2, sR_71_3, sR_71_4, sT_73, sT_74, sT_75, sR_73_0, sR_73_1, sR_73_2, sR_73_3, sR_73_4, sR_73_5, sT_84, sT_85, sT_86, sT_87, sR_84_0, sR_84_1, sR_84_2, sR_84_3, sR_84_4, sR_84_5, sT_88, sT_89, sR_88_0, sT_90, sT_91, sR_90_0, e1, hne, e2, h10, en, hnx, z2, e3]
          try decide
        | some y =>
          have hK : pTwo tx sg i = (some (2 ^ x ||| 2 ^ y), i + 3) := by unfold pTwo; rw [hp]; simp only; rw [if_pos z, if_neg z2, hp2]
          rw [hK]
          rw [hp2] at e3 r3
          rw [oI_s] at e3
          have hy6 := pDig_le (g := 6) hp2
          have hne2 : (nI y = -1) = False := n_m1e (by omega)
          have r3' : RT tx (i + 3) a h3 := r3
          have hxy : x ≠ y := fun e => by
            subst e
            have := (dg_ok r.2.1.2 (i + 2) (g := 6) (by decide)).1 x hp2
            rw [hnx] at this
            exact z2 this.1
          have tP3 : hT h3 P = (1, 7) := by rw [f123.1.1]; exact tP
          have gx : hI h3 P x = nI (g x) := by
            rw [Fr_I f123 (by unfold W882; omega)]; exact cg x (by omega)
          have gy : hI (hSetI h3 P x (nI (g x ||| 2 ^ y))) P y = nI (g y) := by
            rw [hI_setI, if_neg (fun q => hxy q.2.symm), Fr_I f123 (by unfold W882; omega)]; exact cg y (by omega)
          have tP4 : hT (hSetI h3 P x (nI (g x ||| 2 ^ y))) P = (1, 7) := tP3
          have hs4 : Shape (hSetI h3 P x (nI (g x ||| 2 ^ y))) := hs3
          have shx := n_shl 1 (k := x) (by omega)
          have shy := n_shl 1 (k := y) (by omega)
          rw [Nat.one_mul] at shx shy
          have f4 : Fr (Wtc a) h3 (hSetI (hSetI h3 P x (nI (g x ||| 2 ^ y))) P y (nI (g y ||| 2 ^ x))) := Fr_trans (Fr_set _ (Or.inr hP)) (Fr_set _ (Or.inr hP))
          refine ⟨hSetI (hSetI h3 P x (nI (g x ||| 2 ^ y))) P y (nI (g y ||| 2 ^ x)), ?_, RT_fr (W := fun b _ => b = P) r3' (Fr_trans (Fr_set _ rfl) (Fr_set _ rfl)) (fun b j z => by omega), Fr_trans (Fr_mono f123 fun a j q => W882_tc q) f4, fun m hm => ?_⟩
          · clear f4 cg
            generalize hh4 : hSetI h3 P x (nI (g x ||| 2 ^ y)) = h4 at *
            generalize nx tx (i + 2) = v at *
            have n0 : P ≠ 0 := by omega
            simp (disch := first | assumption | omega) [f_T_readTwo, body_T_readTwo, j_meth, j_out, j_rok, j_pad, lg_sl, s_seq_w, isN_inl, isN_inr, s_if, jb, x_c, x_iloc, x_aloc, x_lloc, x_bin, x_un, o_add, o_sub, o_mul, o_and, o_or, o_xor, o_shl, o_shr, o_ushr, o_max, o_min, o_i2b, o_i2c, o_i2l, o_l2i, x_fld, j_fget, x_idx, j_aget, x_len, j_alen, x_ofb, x_ite, xs_nil, xs_cons, x_callv, x_calls, s_callv, s_calls, j_recv, j_ret, j_retv, b_cmp, b_and, b_or, b_not, b_ofi, b_ite, b_true, s_skip, s_set, j_ty, j_lset, j_kill, s_inc, s_fput, j_fput, s_fop, s_aput, j_aput, j_nar, s_aop, s_ret, s_retv, s_go, s_pop, x_linc, x_finc, Value.category, if_icmp.holds, List.flatMap_cons, List.flatMap_nil, List.length_cons, List.length_append, List.length_nil, List.set_cons_succ, List.set_cons_zero, List.getElem?_cons_succ, List.getElem?_cons_zero, List.replicate, ite_and', ite_or', ite_int', nI_leI, nI_ltI, nI_eq, nI_add, nI_1, pk_mul, nI_clamp, n_in', nI_pos', nI_pos, n_m1e, n_01, n_10, sT_1, sR_1_0, sR_1_1, sR_1_2, sR_1_3, sR_1_4, sR_1_5, sR_1_6, sR_1_7, sR_1_8, sR_1_9, sT_2, sT_3, sT_4, sT_5, sT_6, sT_7, sT_8, sT_9, sT_10, sT_11, sT_12, sT_13, sT_14, sR_2_1, sR_2_2, sR_2_3, sR_2_4, sR_2_5, sR_2_6, sR_2_7, sR_2_8, sR_2_9, sR_2_10, sR_2_11, sR_2_12, sT_15, sT_16, sT_17, sT_18, sT_19, sT_20, sT_21, sT_22, sT_23, sR_15_1, sR_15_2, sR_15_3, sR_15_4, sR_15_5, sR_15_6, sR_15_7, sR_15_8, sT_24, sT_25, sT_26, sT_27, sT_28, sT_29, sR_24_1, sR_24_2, sR_24_3, sR_24_4, sR_24_5, sT_71, sT_72, sR_71_0, sR_71_1, sR_71_2, sR_71_3, sR_71_4, sT_73, sT_74, sT_75, sR_73_0, sR_73_1, sR_73_2, sR_73_3, sR_73_4, sR_73_5, sT_84, sT_85, sT_86, sT_87, sR_84_0, sR_84_1, sR_84_2, sR_84_3, sR_84_4, sR_84_5, sT_88, sT_89, sR_88_0, sT_90, sT_91, sR_90_0, e1, hne, e2, h10, en, hnx, z2, e3, hne2, n0, tP3, gx, shy, n_or, hh4, tP4, gy, shx, n_e1]
          · simp only [Option.some.injEq] at hm
            exact ⟨x, y, h3, by omega, by omega, hxy, hm.symm, f123, rfl⟩
    · have hK : pTwo tx sg i = (none, i + 1) := by unfold pTwo; rw [hp]; simp only; rw [if_neg z]
      rw [hK]
      rw [if_neg z] at e2 r2
      refine ⟨h2, ?_, r2, Fr_mono (Fr_trans f1 f2) fun a j q => W882_tc q, fun q hq => by cases hq⟩
      simp (disch := first | assumption | omega) [f_T_readTwo, body_T_readTwo, j_meth, j_out, j_rok, j_pad, lg_sl, s_seq_w, isN_inl, isN_inr, s_if, jb, x_c, x_iloc, x_aloc, x_lloc, x_bin, x_un, o_add, o_sub, o_mul, o_and, o_or, o_xor, o_shl, o_shr, o_ushr, o_max, o_min, o_i2b, o_i2c, o_i2l, o_l2i, x_fld, j_fget, x_idx, j_aget, x_len, j_alen, x_ofb, x_ite, xs_nil, xs_cons, x_callv, x_calls, s_callv, s_calls, j_recv, j_ret, j_retv, b_cmp, b_and, b_or, b_not, b_ofi, b_ite, b_true, s_skip, s_set, j_ty, j_lset, j_kill, s_inc, s_fput, j_fput, s_fop, s_aput, j_aput, j_nar, s_aop, s_ret, s_retv, s_go, s_pop, x_linc, x_finc, Value.category, if_icmp.holds, List.flatMap_cons, List.flatMap_nil, List.length_cons, List.length_append, List.length_nil, List.set_cons_succ, List.set_cons_zero, List.getElem?_cons_succ, List.getElem?_cons_zero, List.replicate, ite_and', ite_or', ite_int', nI_leI, nI_ltI, nI_eq, nI_add, nI_1, pk_mul, nI_clamp, n_in', nI_pos', nI_pos, n_m1e, n_01, n_10, sT_1, sR_1_0, sR_1_1, sR_1_2, sR_1_3, sR_1_4, sR_1_5, sR_1_6, sR_1_7, sR_1_8, sR_1_9, sT_2, sT_3, sT_4, sT_5, sT_6, sT_7, sT_8, sT_9, sT_10, sT_11, sT_12, sT_13, sT_14, sR_2_1, sR_2_2, sR_2_3, sR_2_4, sR_2_5, sR_2_6, sR_2_7, sR_2_8, sR_2_9, sR_2_10, sR_2_11, sR_2_12, sT_15, sT_16, sT_17, sT_18, sT_19, sT_20, sT_21, sT_22, sT_23, sR_15_1, sR_15_2, sR_15_3, sR_15_4, sR_15_5, sR_15_6, sR_15_7, sR_15_8, sT_24, sT_25, sT_26, sT_27, sT_28, sT_29, sR_24_1, sR_24_2, sR_24_3, sR_24_4, sR_24_5, sT_71, sT_72, sR_71_0, sR_71_1, sR_71_2, sR_71_3, sR_71_4, sT_73, sT_74, sT_75, sR_73_0, sR_73_1, sR_73_2, sR_73_3, sR_73_4, sR_73_5, sT_84, sT_85, sT_86, sT_87, sR_84_0, sR_84_1, sR_84_2, sR_84_3, sR_84_4, sR_84_5, sT_88, sT_89, sR_88_0, sT_90, sT_91, sR_90_0, e1, hne, e2]
      try decide
