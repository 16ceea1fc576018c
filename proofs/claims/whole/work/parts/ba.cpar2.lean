/-! reading a number, kept places, two PEOPLE -/
def Wtc (a b j : Nat) : Prop := (b = 88 ∧ j = 2) ∨ (a ≤ b ∧ b ≤ a + 5)
theorem CA_lt {a : Nat} (h : isCA a) : 32 ≤ a ∧ a ≤ 92 ∧ (a ≤ 62 ∨ a = 92) := by
  unfold isCA at h
  omega
theorem W882_tc {a b j : Nat} (h : W882 b j) : Wtc a b j := Or.inl h
theorem CHc_882 {C : CH} {t : Bool} {a : Nat} {h h' : jHp} (ha : isCA a) (c : CHc C t a h) (f : Fr W882 h h') : CHc C t a h' := CHc_eq c fun i j hi => Fr_I f fun q => by
  have := CA_lt ha
  unfold W882 at q
  omega
theorem CHc_most {C : CH} {t : Bool} {a n : Nat} {h : jHp} (c : CHc C t a h) : CHc (n, C.2) t a (hSetI h a 1 (nI n)) := by
  obtain ⟨c0, c1, c2, c3, c4, c5, c6⟩ := c
  refine ⟨by rw [hI_setI, if_neg (by omega)]; exact c0, by rw [hI_setI, if_pos ⟨rfl, rfl⟩]; rfl, by rw [hI_setI, if_neg (by omega)]; exact c2, by rw [hI_setI, if_neg (by omega)]; exact c3, fun k hk => ?_, fun k hk => ?_, fun p hp => ?_⟩
  · rw [hI_setI, if_neg (by omega), hI_setI, if_neg (by omega)]; exact c4 k hk
  · rw [hI_setI, if_neg (by omega)]; exact c5 k hk
  · rw [hI_setI, if_neg (by omega), hI_setI, if_neg (by omega)]; exact c6 p hp
theorem CHc_mon {C : CH} {t : Bool} {a n : Nat} {h : jHp} (c : CHc C t a h) : CHc (C.1, some n, C.2.2) t a (hSetI h a 2 (nI n)) := by
  obtain ⟨c0, c1, c2, c3, c4, c5, c6⟩ := c
  refine ⟨by rw [hI_setI, if_neg (by omega)]; exact c0, by rw [hI_setI, if_neg (by omega)]; exact c1, by rw [hI_setI, if_pos ⟨rfl, rfl⟩]; rfl, by rw [hI_setI, if_neg (by omega)]; exact c3, fun k hk => ?_, fun k hk => ?_, fun p hp => ?_⟩
  · rw [hI_setI, if_neg (by omega), hI_setI, if_neg (by omega)]; exact c4 k hk
  · rw [hI_setI, if_neg (by omega)]; exact c5 k hk
  · rw [hI_setI, if_neg (by omega), hI_setI, if_neg (by omega)]; exact c6 p hp
theorem rn_some {tx : List Nat} {j a n k d : Nat} {f : Int32} {h : jHp} {v : Value} (r : RT tx j a h) (hj : j < 2 ^ 29) (hk : k < 3) (hp : pDig tx 57 j = some d) : ∃ h', lstp 1 2 lc_T_readNumber_1 lb_T_readNumber_1 lu_T_readNumber_1 ([.ref 88, .int f, .int (nI n), .int (nI k), v], h) = some (.inl ([.ref 88, .int f, .int (nI (10 * n + d)), .int (nI (k + 1)), .int (nI d)], h')) ∧ RT tx (j + 1) a h' ∧ Fr W882 h h' := by
  obtain ⟨h1, e1, r1, f1⟩ := e_T_readDigit r hj (g := 9) (by decide)
  have e57 : 48 + 9 = 57 := rfl
  rw [e57, hp] at e1 r1
  rw [oI_s] at e1
  refine ⟨h1, ?_, r1, f1⟩
  have hd : d < 10 := by
    have := (dg_ok r.2.1.2 j (g := 9) (by decide)).1 d hp
    omega
  have hs := r.1
  have hs1 := r1.1
  have hne : (nI d = -1) = False := n_m1e (by omega)
  have hmul : n * 10 + d = 10 * n + d := by omega
  simp (disch := first | assumption | omega) [lstp, lc_T_readNumber_1, lb_T_readNumber_1, lu_T_readNumber_1, j_meth, j_out, j_rok, j_pad, lg_sl, s_seq_w, isN_inl, isN_inr, s_if, jb, x_c, x_iloc, x_aloc, x_lloc, x_bin, x_un, o_add, o_sub, o_mul, o_and, o_or, o_xor, o_shl, o_shr, o_ushr, o_max, o_min, o_i2b, o_i2c, o_i2l, o_l2i, x_fld, j_fget, x_idx, j_aget, x_len, j_alen, x_ofb, x_ite, xs_nil, xs_cons, x_callv, x_calls, s_callv, s_calls, j_recv, j_ret, j_retv, b_cmp, b_and, b_or, b_not, b_ofi, b_ite, b_true, s_skip, s_set, j_ty, j_lset, j_kill, s_inc, s_fput, j_fput, s_fop, s_aput, j_aput, j_nar, s_aop, s_ret, s_retv, s_go, s_pop, x_linc, x_finc, Value.category, if_icmp.holds, List.flatMap_cons, List.flatMap_nil, List.length_cons, List.length_append, List.length_nil, List.set_cons_succ, List.set_cons_zero, List.getElem?_cons_succ, List.getElem?_cons_zero, List.replicate, ite_and', ite_or', ite_int', nI_leI, nI_ltI, nI_eq, nI_add, nI_1, pk_mul, nI_clamp, n_in', nI_pos', nI_pos, n_m1e, n_01, n_10, sT_1, sR_1_0, sR_1_1, sR_1_2, sR_1_3, sR_1_4, sR_1_5, sR_1_6, sR_1_7, sR_1_8, sR_1_9, sT_2, sT_3, sT_4, sT_5, sT_6, sT_7, sT_8, sT_9, sT_10, sT_11, sT_12, sT_13, sT_14, sR_2_1, sR_2_2, sR_2_3, sR_2_4, sR_2_5, sR_2_6, sR_2_7, sR_2_8, sR_2_9, sR_2_10, sR_2_11, sR_2_12, sT_15, sT_16, sT_17, sT_18, sT_19, sT_20, sT_21, sT_22, sT_23, sR_15_1, sR_15_2, sR_15_3, sR_15_4, sR_15_5, sR_15_6, sR_15_7, sR_15_8, sT_24, sT_25, sT_26, sT_27, sT_28, sT_29, sR_24_1, sR_24_2, sR_24_3, sR_24_4, sR_24_5, sT_71, sT_72, sR_71_0, sR_71_1, sR_71_2, sR_71_3, sR_71_4, sT_73, sT_74, sT_75, sR_73_0, sR_73_1, sR_73_2, sR_73_3, sR_73_4, sR_73_5, sT_84, sT_85, sT_86, sT_87, sR_84_0, sR_84_1, sR_84_2, sR_84_3, sR_84_4, sR_84_5, sT_88, sT_89, sR_88_0, sT_90, sT_91, sR_90_0, hk, e1, hne, hmul]
theorem rn_none {tx : List Nat} {j a n k : Nat} {f : Int32} {h : jHp} {v : Value} (r : RT tx j a h) (hj : j < 2 ^ 29) (hk : k < 3) (hp : pDig tx 57 j = none) : ∃ h', lstp 1 2 lc_T_readNumber_1 lb_T_readNumber_1 lu_T_readNumber_1 ([.ref 88, .int f, .int (nI n), .int (nI k), v], h) = some (.inr (.inl 0, ([.ref 88, .int f, .int (nI n), .int (nI k), .int (-1)], h'))) ∧ RT tx j a h' ∧ Fr W882 h h' := by
  obtain ⟨h1, e1, r1, f1⟩ := e_T_readDigit r hj (g := 9) (by decide)
  have e57 : 48 + 9 = 57 := rfl
  rw [e57, hp] at e1 r1
  rw [oI_n] at e1
  refine ⟨h1, ?_, r1, f1⟩
  have hs := r.1
  have hs1 := r1.1
  simp (disch := first | assumption | omega) [lstp, lc_T_readNumber_1, lb_T_readNumber_1, lu_T_readNumber_1, j_meth, j_out, j_rok, j_pad, lg_sl, s_seq_w, isN_inl, isN_inr, s_if, jb, x_c, x_iloc, x_aloc, x_lloc, x_bin, x_un, o_add, o_sub, o_mul, o_and, o_or, o_xor, o_shl, o_shr, o_ushr, o_max, o_min, o_i2b, o_i2c, o_i2l, o_l2i, x_fld, j_fget, x_idx, j_aget, x_len, j_alen, x_ofb, x_ite, xs_nil, xs_cons, x_callv, x_calls, s_callv, s_calls, j_recv, j_ret, j_retv, b_cmp, b_and, b_or, b_not, b_ofi, b_ite, b_true, s_skip, s_set, j_ty, j_lset, j_kill, s_inc, s_fput, j_fput, s_fop, s_aput, j_aput, j_nar, s_aop, s_ret, s_retv, s_go, s_pop, x_linc, x_finc, Value.category, if_icmp.holds, List.flatMap_cons, List.flatMap_nil, List.length_cons, List.length_append, List.length_nil, List.set_cons_succ, List.set_cons_zero, List.getElem?_cons_succ, List.getElem?_cons_zero, List.replicate, ite_and', ite_or', ite_int', nI_leI, nI_ltI, nI_eq, nI_add, nI_1, pk_mul, nI_clamp, n_in', nI_pos', nI_pos, n_m1e, n_01, n_10, sT_1, sR_1_0, sR_1_1, sR_1_2, sR_1_3, sR_1_4, sR_1_5, sR_1_6, sR_1_7, sR_1_8, sR_1_9, sT_2, sT_3, sT_4, sT_5, sT_6, sT_7, sT_8, sT_9, sT_10, sT_11, sT_12, sT_13, sT_14, sR_2_1, sR_2_2, sR_2_3, sR_2_4, sR_2_5, sR_2_6, sR_2_7, sR_2_8, sR_2_9, sR_2_10, sR_2_11, sR_2_12, sT_15, sT_16, sT_17, sT_18, sT_19, sT_20, sT_21, sT_22, sT_23, sR_15_1, sR_15_2, sR_15_3, sR_15_4, sR_15_5, sR_15_6, sR_15_7, sR_15_8, sT_24, sT_25, sT_26, sT_27, sT_28, sT_29, sR_24_1, sR_24_2, sR_24_3, sR_24_4, sR_24_5, sT_71, sT_72, sR_71_0, sR_71_1, sR_71_2, sR_71_3, sR_71_4, sT_73, sT_74, sT_75, sR_73_0, sR_73_1, sR_73_2, sR_73_3, sR_73_4, sR_73_5, sT_84, sT_85, sT_86, sT_87, sR_84_0, sR_84_1, sR_84_2, sR_84_3, sR_84_4, sR_84_5, sT_88, sT_89, sR_88_0, sT_90, sT_91, sR_90_0, hk, e1]
theorem rn_loop {tx : List Nat} {i a n0 : Nat} {f : Int32} {h : jHp} (r : RT tx (i + 1) a h) (hi : i < 2 ^ 28) (hp : pDig tx 57 i = some n0) : ∃ q h' v w, pNum tx i = some q ∧ s_loop 1 2 lc_T_readNumber_1 lb_T_readNumber_1 lu_T_readNumber_1 ([.ref 88, .int f, .int (nI n0), .int (nI 1), .null], h) = some (.inl 0, ([.ref 88, .int f, .int (nI q.1), v, w], h')) ∧ RT tx q.2 a h' ∧ Fr W882 h h' := by
  unfold pNum
  rw [hp]
  simp only
  cases hp1 : pDig tx 57 (i + 1) with
  | none =>
    obtain ⟨h1, e1, r1, f1⟩ := rn_none (n := n0) (k := 1) (f := f) (v := .null) r (by omega) (by decide) hp1
    exact ⟨_, h1, _, _, rfl, s_loop_inr e1, r1, f1⟩
  | some b =>
    obtain ⟨h1, e1, r1, f1⟩ := rn_some (n := n0) (k := 1) (f := f) (v := .null) r (by omega) (by decide) hp1
    cases hp2 : pDig tx 57 (i + 2) with
    | none =>
      obtain ⟨h2, e2, r2, f2⟩ := rn_none (n := 10 * n0 + b) (k := 2) (f := f) (v := .int (nI b)) r1 (by omega) (by decide) hp2
      exact ⟨_, h2, _, _, rfl, s_loop_inl e1 (s_loop_inr e2), r2, Fr_trans f1 f2⟩
    | some c =>
      obtain ⟨h2, e2, r2, f2⟩ := rn_some (n := 10 * n0 + b) (k := 2) (f := f) (v := .int (nI b)) r1 (by omega) (by decide) hp2
      have hs2 := r2.1
      have e3 : lstp 1 2 lc_T_readNumber_1 lb_T_readNumber_1 lu_T_readNumber_1 ([.ref 88, .int f, .int (nI (10 * (10 * n0 + b) + c)), .int (nI (2 + 1)), .int (nI c)], h2) = some (.inr (.inl 0, ([.ref 88, .int f, .int (nI (10 * (10 * n0 + b) + c)), .int (nI (2 + 1)), .int (nI c)], h2))) := by simp (disch := first | assumption | omega) [lstp, lc_T_readNumber_1, lb_T_readNumber_1, lu_T_readNumber_1, j_meth, j_out, j_rok, j_pad, lg_sl, s_seq_w, isN_inl, isN_inr, s_if, jb, x_c, x_iloc, x_aloc, x_lloc, x_bin, x_un, o_add, o_sub, o_mul, o_and, o_or, o_xor, o_shl, o_shr, o_ushr, o_max, o_min, o_i2b, o_i2c, o_i2l, o_l2i, x_fld, j_fget, x_idx, j_aget, x_len, j_alen, x_ofb, x_ite, xs_nil, xs_cons, x_callv, x_calls, s_callv, s_calls, j_recv, j_ret, j_retv, b_cmp, b_and, b_or, b_not, b_ofi, b_ite, b_true, s_skip, s_set, j_ty, j_lset, j_kill, s_inc, s_fput, j_fput, s_fop, s_aput, j_aput, j_nar, s_aop, s_ret, s_retv, s_go, s_pop, x_linc, x_finc, Value.category, if_icmp.holds, List.flatMap_cons, List.flatMap_nil, List.length_cons, List.length_append, List.length_nil, List.set_cons_succ, List.set_cons_zero, List.getElem?_cons_succ, List.getElem?_cons_zero, List.replicate, ite_and', ite_or', ite_int', nI_leI, nI_ltI, nI_eq, nI_add, nI_1, pk_mul, nI_clamp, n_in', nI_pos', nI_pos, n_m1e, n_01, n_10, sT_1, sR_1_0, sR_1_1, sR_1_2, sR_1_3, sR_1_4, sR_1_5, sR_1_6, sR_1_7, sR_1_8, sR_1_9, sT_2, sT_3, sT_4, sT_5, sT_6, sT_7, sT_8, sT_9, sT_10, sT_11, sT_12, sT_13, sT_14, sR_2_1, sR_2_2, sR_2_3, sR_2_4, sR_2_5, sR_2_6, sR_2_7, sR_2_8, sR_2_9, sR_2_10, sR_2_11, sR_2_12, sT_15, sT_16, sT_17, sT_18, sT_19, sT_20, sT_21, sT_22, sT_23, sR_15_1, sR_15_2, sR_15_3, sR_15_4, sR_15_5, sR_15_6, sR_15_7, sR_15_8, sT_24, sT_25, sT_26, sT_27, sT_28, sT_29, sR_24_1, sR_24_2, sR_24_3, sR_24_4, sR_24_5, sT_71, sT_72, sR_71_0, sR_71_1, sR_71_2, sR_71_3, sR_71_4, sT_73, sT_74, sT_75, sR_73_0, sR_73_1, sR_73_2, sR_73_3, sR_73_4, sR_73_5, sT_84, sT_85, sT_86, sT_87, sR_84_0, sR_84_1, sR_84_2, sR_84_3, sR_84_4, sR_84_5, sT_88, sT_89, sR_88_0, sT_90, sT_91, sR_90_0]
      exact ⟨_, h2, _, _, rfl, s_loop_inl e1 (s_loop_inl e2 (s_loop_inr e3)), r2, Fr_trans f1 f2⟩
theorem e_T_readNumber {tx : List Nat} {i a : Nat} {C : CH} {t : Bool} {h : jHp} (r : RT tx i a h) (hi : i < 2 ^ 28) (c : CHc C t a h) (u : Bool) : ∃ h', f_T_readNumber [.ref 88, .int (nI (if u then 113 else 99))] h = some (some (.int (if (pNum tx i).isSome then 1 else 0)), h') ∧ RT tx (match pNum tx i with
    | none => i
    | some q => q.2) a h' ∧ Fr (Wtc a) h h' ∧ ∀ q, pNum tx i = some q → CHc (if u then (q.1, C.2) else (C.1, some q.1, C.2.2)) t a h' := by
  obtain ⟨h1, e1, r1, f1⟩ := e_T_readDigit r (by omega) (g := 9) (by decide)
  have e57 : 48 + 9 = 57 := rfl
  rw [e57] at e1 r1
  have hs := r.1
  have ha := r.2.2.2.2.2.2
  have hal := CA_lt ha
  cases hp : pDig tx 57 i with
  | none =>
    have hn : pNum tx i = none := by unfold pNum; rw [hp]
    rw [hn]
    rw [hp] at e1 r1
    rw [oI_n] at e1
    refine ⟨h1, ?_, r1, Fr_mono f1 fun a j q => W882_tc q, fun q hq => by cases hq⟩
    have hs1 := r1.1
    simp (disch := first | assumption | omega) [f_T_readNumber, body_T_readNumber, j_meth, j_out, j_rok, j_pad, lg_sl, s_seq_w, isN_inl, isN_inr, s_if, jb, x_c, x_iloc, x_aloc, x_lloc, x_bin, x_un, o_add, o_sub, o_mul, o_and, o_or, o_xor, o_shl, o_shr, o_ushr, o_max, o_min, o_i2b, o_i2c, o_i2l, o_l2i, x_fld, j_fget, x_idx, j_aget, x_len, j_alen, x_ofb, x_ite, xs_nil, xs_cons, x_callv, x_calls, s_callv, s_calls, j_recv, j_ret, j_retv, b_cmp, b_and, b_or, b_not, b_ofi, b_ite, b_true, s_skip, s_set, j_ty, j_lset, j_kill, s_inc, s_fput, j_fput, s_fop, s_aput, j_aput, j_nar, s_aop, s_ret, s_retv, s_go, s_pop, x_linc, x_finc, Value.category, if_icmp.holds, List.flatMap_cons, List.flatMap_nil, List.length_cons, List.length_append, List.length_nil, List.set_cons_succ, List.set_cons_zero, List.getElem?_cons_succ, List.getElem?_cons_zero, List.replicate, ite_and', ite_or', ite_int', nI_leI, nI_ltI, nI_eq, nI_add, nI_1, pk_mul, nI_clamp, n_in', nI_pos', nI_pos, n_m1e, n_01, n_10, sT_1, sR_1_0, sR_1_1, sR_1_2, sR_1_3, sR_1_4, sR_1_5, sR_1_6, sR_1_7, sR_1_8, sR_1_9, sT_2, sT_3, sT_4, sT_5, sT_6, sT_7, sT_8, sT_9, sT_10, sT_11, sT_12, sT_13, sT_14, sR_2_1, sR_2_2, sR_2_3, sR_2_4, sR_2_5, sR_2_6, sR_2_7, sR_2_8, sR_2_9, sR_2_10, sR_2_11, sR_2_12, sT_15, sT_16, sT_17, sT_18, sT_19, sT_20, sT_21, sT_22, sT_23, sR_15_1, sR_15_2, sR_15_3, sR_15_4, sR_15_5, sR_15_6, sR_15_7, sR_15_8, sT_24, sT_25, sT_26, sT_27, sT_28, sT_29, sR_24_1, sR_24_2, sR_24_3, sR_24_4, sR_24_5, sT_71, sT_72, sR_71_0, sR_71_1, sR_71_2, sR_71_3, sR_71_4, sT_73, sT_74, sT_75, sR_73_0, sR_73_1, sR_73_2, sR_73_3, sR_73_4, sR_73_5, sT_84, sT_85, sT_86, sT_87, sR_84_0, sR_84_1, sR_84_2, sR_84_3, sR_84_4, sR_84_5, sT_88, sT_89, sR_88_0, sT_90, sT_91, sR_90_0, e1]
    try decide
  | some d =>
    rw [hp] at e1 r1
    rw [oI_s] at e1
    have hd : d < 10 := by
      have := (dg_ok r.2.1.2 i (g := 9) (by decide)).1 d hp
      omega
    have hne : (nI d = -1) = False := n_m1e (by omega)
    obtain ⟨q, h2, v, w, hq, e2, r2, f2⟩ := rn_loop (f := nI (if u then 113 else 99)) r1 (by omega) hp
    rw [hq]
    have hs1 := r1.1
    have hs2 := r2.1
    have h3 := r2.2.2.2.2.2.1
    have u0 := (CA_of hs2 ha).1
    have ha0 : a ≠ 0 := by omega
    have c2 := CHc_882 ha (CHc_882 ha c f1) f2
    have h113 : (nI 113 = nI 99) = False := by decide
    have h99 : (nI 99 = nI 113) = False := by decide
    cases u with
    | true =>
      simp only [if_true] at e2 ⊢
      have f3 : Fr (Wtc a) h2 (hSetI h2 a 1 (nI q.1)) := Fr_set _ (Or.inr ⟨by omega, by omega⟩)
      refine ⟨hSetI h2 a 1 (nI q.1), ?_, RT_fr (W := fun b _ => b = a) r2 (Fr_set _ rfl) (fun b j z => by omega), Fr_trans (Fr_mono f1 fun a j q => W882_tc q) (Fr_trans (Fr_mono f2 fun a j q => W882_tc q) f3), fun z hz => ?_⟩
      · generalize q.1 = n at *
        clear f3
        have hs3 : Shape (hSetI h2 a 1 (nI n)) := hs2
        generalize hh : hSetI h2 a 1 (nI n) = h4 at *
        simp (disch := first | assumption | omega) [f_T_readNumber, body_T_readNumber, j_meth, j_out, j_rok, j_pad, lg_sl, s_seq_w, isN_inl, isN_inr, s_if, jb, x_c, x_iloc, x_aloc, x_lloc, x_bin, x_un, o_add, o_sub, o_mul, o_and, o_or, o_xor, o_shl, o_shr, o_ushr, o_max, o_min, o_i2b, o_i2c, o_i2l, o_l2i, x_fld, j_fget, x_idx, j_aget, x_len, j_alen, x_ofb, x_ite, xs_nil, xs_cons, x_callv, x_calls, s_callv, s_calls, j_recv, j_ret, j_retv, b_cmp, b_and, b_or, b_not, b_ofi, b_ite, b_true, s_skip, s_set, j_ty, j_lset, j_kill, s_inc, s_fput, j_fput, s_fop, s_aput, j_aput, j_nar, s_aop, s_ret, s_retv, s_go, s_pop, x_linc, x_finc, Value.category, if_icmp.holds, List.flatMap_cons, List.flatMap_nil, List.length_cons, List.length_append, List.length_nil, List.set_cons_succ, List.set_cons_zero, List.getElem?_cons_succ, List.getElem?_cons_zero, List.replicate, ite_and', ite_or', ite_int', nI_leI, nI_ltI, nI_eq, nI_add, nI_1, pk_mul, nI_clamp, n_in', nI_pos', nI_pos, n_m1e, n_01, n_10, sT_1, sR_1_0, sR_1_1, sR_1_2, sR_1_3, sR_1_4, sR_1_5, sR_1_6, sR_1_7, sR_1_8, sR_1_9, sT_2, sT_3, sT_4, sT_5, sT_6, sT_7, sT_8, sT_9, sT_10, sT_11, sT_12, sT_13, sT_14, sR_2_1, sR_2_2, sR_2_3, sR_2_4, sR_2_5, sR_2_6, sR_2_7, sR_2_8, sR_2_9, sR_2_10, sR_2_11, sR_2_12, sT_15, sT_16, sT_17, sT_18, sT_19, sT_20, sT_21, sT_22, sT_23, sR_15_1, sR_15_2, sR_15_3, sR_15_4, sR_15_5, sR_15_6, sR_15_7, sR_15_8, sT_24, sT_25, sT_26, sT_27, sT_28, sT_29, sR_24_1, sR_24_2, sR_24_3, sR_24_4, sR_24_5, sT_71, sT_72, sR_71_0, sR_71_1, sR_71_2, sR_71_3, sR_71_4, sT_73, sT_74, sT_75, sR_73_0, sR_73_1, sR_73_2, sR_73_3, sR_73_4, sR_73_5, sT_84, sT_85, sT_86, sT_87, sR_84_0, sR_84_1, sR_84_2, sR_84_3, sR_84_4, sR_84_5, sT_88, sT_89, sR_88_0, sT_90, sT_91, sR_90_0, e1, hne, e2, h3, ha0, u0, hh, n_e1]
      · simp only [Option.some.injEq] at hz
        subst hz
        exact CHc_most c2
    | false =>
      simp only [Bool.false_eq_true, if_false] at e2 ⊢
      have f3 : Fr (Wtc a) h2 (hSetI h2 a 2 (nI q.1)) := Fr_set _ (Or.inr ⟨by omega, by omega⟩)
      refine ⟨hSetI h2 a 2 (nI q.1), ?_, RT_fr (W := fun b _ => b = a) r2 (Fr_set _ rfl) (fun b j z => by omega), Fr_trans (Fr_mono f1 fun a j q => W882_tc q) (Fr_trans (Fr_mono f2 fun a j q => W882_tc q) f3), fun z hz => ?_⟩
      · generalize q.1 = n at *
        clear f3
        have hs3 : Shape (hSetI h2 a 2 (nI n)) := hs2
        generalize hh : hSetI h2 a 2 (nI n) = h4 at *
        simp (disch := first | assumption | omega) [f_T_readNumber, body_T_readNumber, j_meth, j_out, j_rok, j_pad, lg_sl, s_seq_w, isN_inl, isN_inr, s_if, jb, x_c, x_iloc, x_aloc, x_lloc, x_bin, x_un, o_add, o_sub, o_mul, o_and, o_or, o_xor, o_shl, o_shr, o_ushr, o_max, o_min, o_i2b, o_i2c, o_i2l, o_l2i, x_fld, j_fget, x_idx, j_aget, x_len, j_alen, x_ofb, x_ite, xs_nil, xs_cons, x_callv, x_calls, s_callv, s_calls, j_recv, j_ret, j_retv, b_cmp, b_and, b_or, b_not, b_ofi, b_ite, b_true, s_skip, s_set, j_ty, j_lset, j_kill, s_inc, s_fput, j_fput, s_fop, s_aput, j_aput, j_nar, s_aop, s_ret, s_retv, s_go, s_pop, x_linc, x_finc, Value.category, if_icmp.holds, List.flatMap_cons, List.flatMap_nil, List.length_cons, List.length_append, List.length_nil, List.set_cons_succ, List.set_cons_zero, List.getElem?_cons_succ, List.getElem?_cons_zero, List.replicate, ite_and', ite_or', ite_int', nI_leI, nI_ltI, nI_eq, nI_add, nI_1, pk_mul, nI_clamp, n_in', nI_pos', nI_pos, n_m1e, n_01, n_10, sT_1, sR_1_0, sR_1_1, sR_1_2, sR_1_3, sR_1_4, sR_1_5, sR_1_6, sR_1_7, sR_1_8, sR_1_9, sT_2, sT_3, sT_4, sT_5, sT_6, sT_7, sT_8, sT_9, sT_10, sT_11, sT_12, sT_13, sT_14, sR_2_1, sR_2_2, sR_2_3, sR_2_4, sR_2_5, sR_2_6, sR_2_7, sR_2_8, sR_2_9, sR_2_10, sR_2_11, sR_2_12, sT_15, sT_16, sT_17, sT_18, sT_19, sT_20, sT_21, sT_22, sT_23, sR_15_1, sR_15_2, sR_15_3, sR_15_4, sR_15_5, sR_15_6, sR_15_7, sR_15_8, sT_24, sT_25, sT_26, sT_27, sT_28, sT_29, sR_24_1, sR_24_2, sR_24_3, sR_24_4, sR_24_5, sT_71, sT_72, sR_71_0, sR_71_1, sR_71_2, sR_71_3, sR_71_4, sT_73, sT_74, sT_75, sR_73_0, sR_73_1, sR_73_2, sR_73_3, sR_73_4, sR_73_5, sT_84, sT_85, sT_86, sT_87, sR_84_0, sR_84_1, sR_84_2, sR_84_3, sR_84_4, sR_84_5, sT_88, sT_89, sR_88_0, sT_90, sT_91, sR_90_0, e1, hne, e2, h99, h3, ha0, u0, hh, n_e1]
      · simp only [Option.some.injEq] at hz
        subst hz
        exact CHc_mon c2
