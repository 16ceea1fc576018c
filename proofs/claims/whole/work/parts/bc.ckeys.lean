/-! reading keys -/
def RKc (ks : List (Nat × Bool)) (a : Nat) (h : jHp) : Prop := hI h a 3 = nI ks.length ∧ ∀ k, k < ks.length → hI h (a + 1) k = nI (ltK (ks.getD k (0, true)).1) ∧ hI h (a + 2) k = if (ks.getD k (0, true)).2 then 1 else -1
def WK (a b j : Nat) : Prop := W882 b j ∨ (b = a ∧ j = 3) ∨ b = a + 1 ∨ b = a + 2
def kG (tx : List Nat) : Nat → Nat → List (Nat × Bool) → Option (List (Nat × Bool)) × Nat
  | 0, i, ks => (some ks, i)
  | n + 1, i, ks => if isPM (tg tx i) then (match pKey tx i with
    | (some k, j) => kG tx n j (ks ++ [k])
    | (none, j) => (none, j)) else if ks.length = 0 then (none, i) else (some ks, i)
theorem kG_ks (tx : List Nat) : ∀ n i ks, ks.length ≠ 0 → kG tx n i ks = pKs tx n i ks := by
  intro n
  induction n with
  | zero => intro i ks _; rfl
  | succ n ih =>
    intro i ks h
    simp only [kG, pKs]
    by_cases z : isPM (tg tx i) = true
    · rw [if_pos z, if_pos z]
      cases hk : pKey tx i with
      | mk o j =>
        cases o with
        | none => rfl
        | some k => exact ih j (ks ++ [k]) (by simp)
    · rw [if_neg z, if_neg z, if_neg h]
theorem kG_5 (tx : List Nat) (i : Nat) : kG tx 5 i [] = pKyA tx i := by
  unfold pKyA
  simp only [kG]
  by_cases z : isPM (tg tx i) = true
  · rw [if_pos z]
    cases hk : pKey tx i with
    | mk o j =>
      cases o with
      | none => rfl
      | some k => exact kG_ks tx 4 j ([] ++ [k]) (by simp)
  · rw [if_neg z]
    have : pKey tx i = (none, i) := by unfold pKey; rw [if_neg z]
    rw [this]
    rfl
theorem n_c16s : ∀ m, m < 256 → ((nI m).toUInt32 % 65536).toInt32 = nI m := by decide +kernel
theorem ixc : ∀ c, c < 256 → j_ix (nI c) = oI (ltI c) := by decide +kernel
theorem ltK_I : ∀ c, c < 256 → ∀ k, k < 5 → ltI c = some k → ltK k = c := by decide +kernel
theorem ltI_5 {c k : Nat} (h : ltI c = some k) : k < 5 := by
  unfold ltI at h
  repeat' split at h
  all_goals first | (cases h; done) | (cases h; decide)
theorem nx_neg {tx : List Nat} {i : Nat} (h : tg tx i = none) : nx tx i < 0 := by
  unfold nx
  rw [h]
  simp only
  split <;> decide
theorem ixof_ok {v0 v1 v2 : Value} {c1 : Nat} {o : Int32} {h : jHp} (hc1 : c1 < 256) (hix : j_ix (nI c1) = o) : x_ixof (x_un o_i2c (x_iloc 3)) ([v0, v1, v2, .int (nI c1)], h) = some (.int o, ([v0, v1, v2, .int (nI c1)], h)) := by
  have hc16 := n_c16 c1 hc1
  have h1 : x_un o_i2c (x_iloc 3) ([v0, v1, v2, .int (nI c1)], h) = some (.int (nI c1).toUInt32.toUInt16.toUInt32.toInt32, ([v0, v1, v2, .int (nI c1)], h)) := rfl
  rw [hc16] at h1
  unfold x_ixof
  rw [h1]
  simp only [jb, hix]
noncomputable def kb_a : jSt := (s_if (b_or (b_cmp .lt (x_iloc 3) (x_c (.int 0))) (b_cmp .lt (x_ixof (x_un o_i2c (x_iloc 3))) (x_c (.int 0)))) (s_ret (x_c (.int (nI 0)))) s_skip)
noncomputable def kb_b : jSt := (s_seq (s_fop 10 2 o_add (x_aloc 0) (x_c (.int (nI 1)))) (s_seq (s_aput 1 (x_fld 2 1 4 (x_fld 10 1 3 (x_aloc 0))) (x_iloc 1) (x_iloc 3)) (s_seq (s_aput 1 (x_fld 2 1 5 (x_fld 10 1 3 (x_aloc 0))) (x_iloc 1) (x_ite (b_cmp .eq (x_iloc 2) (x_c (.int (nI 43)))) (x_c (.int (nI 1))) (x_c (.int (-1))))) (s_fput 2 0 0 3 (x_fld 10 1 3 (x_aloc 0)) (x_bin o_add (x_iloc 1) (x_c (.int (nI 1))))))))
theorem kb_body : lb_T_readKeys_1 = s_seq (s_set 0 2 (x_callv 10 f_T_next (xs_cons (x_aloc 0) xs_nil))) (s_seq (s_if (b_and (b_cmp .ne (x_iloc 2) (x_c (.int (nI 43)))) (b_cmp .ne (x_iloc 2) (x_c (.int (nI 45))))) (s_ret (x_ofb (b_cmp .gt (x_iloc 1) (x_c (.int 0))))) s_skip) (s_seq (s_fop 10 2 o_add (x_aloc 0) (x_c (.int (nI 1)))) (s_seq (s_set 0 3 (x_callv 10 f_T_next (xs_cons (x_aloc 0) xs_nil))) (s_seq kb_a kb_b)))) := rfl
theorem kb_gen {xx : jE} {v0 v1 v2 : Value} {c o : Int32} {h : jHp} (h0 : ¬ c < 0) (ho : ¬ o < 0) (hX : xx ([v0, v1, v2, .int c], h) = some (.int o, ([v0, v1, v2, .int c], h))) : s_if (b_or (b_cmp .lt (x_iloc 3) (x_c (.int 0))) (b_cmp .lt xx (x_c (.int 0)))) (s_ret (x_c (.int (nI 0)))) s_skip ([v0, v1, v2, .int c], h) = some (.inl 0, ([v0, v1, v2, .int c], h)) := by
  simp (disch := first | assumption | omega) [j_meth, j_out, j_rok, j_pad, lg_sl, s_seq_w, isN_inl, isN_inr, s_if, jb, x_c, x_iloc, x_aloc, x_lloc, x_bin, x_un, o_add, o_sub, o_mul, o_and, o_or, o_xor, o_shl, o_shr, o_ushr, o_max, o_min, o_i2b, o_i2c, o_i2l, o_l2i, x_fld, j_fget, x_idx, j_aget, x_len, j_alen, x_ofb, x_ite, xs_nil, xs_cons, x_callv, x_calls, s_callv, s_calls, j_recv, j_ret, j_retv, b_cmp, b_and, b_or, b_not, b_ofi, b_ite, b_true, s_skip, s_set, j_ty, j_lset, j_kill, s_inc, s_fput, j_fput, s_fop, s_aput, j_aput, j_nar, s_aop, s_ret, s_retv, s_go, s_pop, x_linc, x_finc, Value.category, if_icmp.holds, List.flatMap_cons, List.flatMap_nil, List.length_cons, List.length_append, List.length_nil, List.set_cons_succ, List.set_cons_zero, List.getElem?_cons_succ, List.getElem?_cons_zero, List.replicate, ite_and', ite_or', ite_int', nI_leI, nI_ltI, nI_eq, nI_add, nI_1, pk_mul, nI_clamp, n_in', nI_pos', nI_pos, n_m1e, n_01, n_10, sT_1, sR_1_0, sR_1_1, sR_1_2, sR_1_3, sR_1_4, sR_1_5, sR_1_6, sR_1_7, sR_1_8, sR_1_9, sT_2, sT_3, sT_4, sT_5, sT_6, sT_7, sT_8, sT_9, sT_10, sT_11, sT_12, sT_13, sT_14, sR_2_1, sR_2_2, sR_2_3, sR_2_4, sR_2_5, sR_2_6, sR_2_7, sR_2_8, sR_2_9, sR_2_10, sR_2_11, sR_2_12, sT_15, sT_16, sT_17, sT_18, sT_19, sT_20, sT_21, sT_22, sT_23, sR_15_1, sR_15_2, sR_15_3, sR_15_4, sR_15_5, sR_15_6, sR_15_7, sR_15_8, sT_24, sT_25, sT_26, sT_27, sT_28, sT_29, sR_24_1, sR_24_2, sR_24_3, sR_24_4, sR_24_5, sT_71, sT_72, sR_71_0, sR_71_1, sR_71_2, sR_71_3, sR_71_4, sT_73, sT_74, sT_75, sR_73_0, sR_73_1, sR_73_2, sR_73_3, sR_73_4, sR_73_5, sT_84, sT_85, sT_86, sT_87, sR_84_0, sR_84_1, sR_84_2, sR_84_3, sR_84_4, sR_84_5, sT_88, sT_89, sR_88_0, sT_90, sT_91, sR_90_0, h0, hX, ho]
theorem kb_gen2 {xx : jE} {v0 v1 v2 : Value} {c o : Int32} {h : jHp} (h0 : ¬ c < 0) (ho : o < 0) (hX : xx ([v0, v1, v2, .int c], h) = some (.int o, ([v0, v1, v2, .int c], h))) : s_if (b_or (b_cmp .lt (x_iloc 3) (x_c (.int 0))) (b_cmp .lt xx (x_c (.int 0)))) (s_ret (x_c (.int (nI 0)))) s_skip ([v0, v1, v2, .int c], h) = some (.inr (some (.int (nI 0))), ([v0, v1, v2, .int c], h)) := by
  simp (disch := first | assumption | omega) [j_meth, j_out, j_rok, j_pad, lg_sl, s_seq_w, isN_inl, isN_inr, s_if, jb, x_c, x_iloc, x_aloc, x_lloc, x_bin, x_un, o_add, o_sub, o_mul, o_and, o_or, o_xor, o_shl, o_shr, o_ushr, o_max, o_min, o_i2b, o_i2c, o_i2l, o_l2i, x_fld, j_fget, x_idx, j_aget, x_len, j_alen, x_ofb, x_ite, xs_nil, xs_cons, x_callv, x_calls, s_callv, s_calls, j_recv, j_ret, j_retv, b_cmp, b_and, b_or, b_not, b_ofi, b_ite, b_true, s_skip, s_set, j_ty, j_lset, j_kill, s_inc, s_fput, j_fput, s_fop, s_aput, j_aput, j_nar, s_aop, s_ret, s_retv, s_go, s_pop, x_linc, x_finc, Value.category, if_icmp.holds, List.flatMap_cons, List.flatMap_nil, List.length_cons, List.length_append, List.length_nil, List.set_cons_succ, List.set_cons_zero, List.getElem?_cons_succ, List.getElem?_cons_zero, List.replicate, ite_and', ite_or', ite_int', nI_leI, nI_ltI, nI_eq, nI_add, nI_1, pk_mul, nI_clamp, n_in', nI_pos', nI_pos, n_m1e, n_01, n_10, sT_1, sR_1_0, sR_1_1, sR_1_2, sR_1_3, sR_1_4, sR_1_5, sR_1_6, sR_1_7, sR_1_8, sR_1_9, sT_2, sT_3, sT_4, sT_5, sT_6, sT_7, sT_8, sT_9, sT_10, sT_11, sT_12, sT_13, sT_14, sR_2_1, sR_2_2, sR_2_3, sR_2_4, sR_2_5, sR_2_6, sR_2_7, sR_2_8, sR_2_9, sR_2_10, sR_2_11, sR_2_12, sT_15, sT_16, sT_17, sT_18, sT_19, sT_20, sT_21, sT_22, sT_23, sR_15_1, sR_15_2, sR_15_3, sR_15_4, sR_15_5, sR_15_6, sR_15_7, sR_15_8, sT_24, sT_25, sT_26, sT_27, sT_28, sT_29, sR_24_1, sR_24_2, sR_24_3, sR_24_4, sR_24_5, sT_71, sT_72, sR_71_0, sR_71_1, sR_71_2, sR_71_3, sR_71_4, sT_73, sT_74, sT_75, sR_73_0, sR_73_1, sR_73_2, sR_73_3, sR_73_4, sR_73_5, sT_84, sT_85, sT_86, sT_87, sR_84_0, sR_84_1, sR_84_2, sR_84_3, sR_84_4, sR_84_5, sT_88, sT_89, sR_88_0, sT_90, sT_91, sR_90_0, h0, hX, ho]
theorem kb_a_ok {v0 v1 v2 : Value} {c1 k : Nat} {h : jHp} (hc1 : c1 < 256) (hk5 : k < 5) (hix : j_ix (nI c1) = nI k) : kb_a ([v0, v1, v2, .int (nI c1)], h) = some (.inl 0, ([v0, v1, v2, .int (nI c1)], h)) :=
  kb_gen (Int32.not_lt.mpr (nI_pos' (by omega))) (Int32.not_lt.mpr (nI_pos' (by omega))) (ixof_ok hc1 hix)
theorem kb_a_no {v0 v1 v2 : Value} {c1 : Nat} {h : jHp} (hc1 : c1 < 256) (hix : j_ix (nI c1) = -1) : kb_a ([v0, v1, v2, .int (nI c1)], h) = some (.inr (some (.int (nI 0))), ([v0, v1, v2, .int (nI c1)], h)) :=
  kb_gen2 (Int32.not_lt.mpr (nI_pos' (by omega))) (by decide) (ixof_ok hc1 hix)
theorem kb_b_ok {j a n c1 : Nat} {w : Bool} {h : jHp} (hs : Shape h) (ha : isCA a) (hn : n < 5) (hj : j < 2 ^ 28) (hR3 : hR h 88 3 = a) (c2 : hI h 88 2 = nI j) : kb_b ([.ref 88, .int (nI n), .int (nI (if w then 43 else 45)), .int (nI c1)], h) = some (.inl 0, ([.ref 88, .int (nI n), .int (nI (if w then 43 else 45)), .int (nI c1)], hSetI (hSetI (hSetI (hSetI h 88 2 (nI (j + 1))) (a + 1) n (nI c1)) (a + 2) n (if w then nI 1 else -1)) a 3 (nI (n + 1)))) := by
  have hal := CA_lt ha
  obtain ⟨u0, u4, u5, -, -, -, t4, t5, -⟩ := CA_of hs ha
  have ha0 : a ≠ 0 := by omega
  have n1 : a + 1 ≠ 0 := by omega
  have n2 : a + 2 ≠ 0 := by omega
  have n4345 : (nI 45 = nI 43) = False := by decide
  have hs2 : Shape (hSetI h 88 2 (nI (j + 1))) := hs
  have hs3 : Shape (hSetI (hSetI h 88 2 (nI (j + 1))) (a + 1) n (nI c1)) := hs
  have hs4 : Shape (hSetI (hSetI (hSetI h 88 2 (nI (j + 1))) (a + 1) n (nI c1)) (a + 2) n (if w then nI 1 else -1)) := hs
  have R2 : hR (hSetI h 88 2 (nI (j + 1))) = hR h := rfl
  have R3 : hR (hSetI (hSetI h 88 2 (nI (j + 1))) (a + 1) n (nI c1)) = hR h := rfl
  have R4 : hR (hSetI (hSetI (hSetI h 88 2 (nI (j + 1))) (a + 1) n (nI c1)) (a + 2) n (if w then nI 1 else -1)) = hR h := rfl
  have T2 : hT (hSetI h 88 2 (nI (j + 1))) = hT h := rfl
  have T3 : hT (hSetI (hSetI h 88 2 (nI (j + 1))) (a + 1) n (nI c1)) = hT h := rfl
  have T4 : hT (hSetI (hSetI (hSetI h 88 2 (nI (j + 1))) (a + 1) n (nI c1)) (a + 2) n (if w then nI 1 else -1)) = hT h := rfl
  cases w with
  | true =>
    simp only [if_true] at R4 T4 hs4 ⊢
    generalize hh4 : hSetI (hSetI (hSetI h 88 2 (nI (j + 1))) (a + 1) n (nI c1)) (a + 2) n (nI 1) = h4 at *
    generalize hh3 : hSetI (hSetI h 88 2 (nI (j + 1))) (a + 1) n (nI c1) = h3 at *
    generalize hh2 : hSetI h 88 2 (nI (j + 1)) = h2 at *
    simp (disch := first | assumption | omega) [kb_b, j_meth, j_out, j_rok, j_pad, lg_sl, s_seq_w, isN_inl, isN_inr, s_if, jb, x_c, x_iloc, x_aloc, x_lloc, x_bin, x_un, o_add, o_sub, o_mul, o_and, o_or, o_xor, o_shl, o_shr, o_ushr, o_max, o_min, o_i2b, o_i2c, o_i2l, o_l2i, x_fld, j_fget, x_idx, j_aget, x_len, j_alen, x_ofb, x_ite, xs_nil, xs_cons, x_callv, x_calls, s_callv, s_calls, j_recv, j_ret, j_retv, b_cmp, b_and, b_or, b_not, b_ofi, b_ite, b_true, s_skip, s_set, j_ty, j_lset, j_kill, s_inc, s_fput, j_fput, s_fop, s_aput, j_aput, j_nar, s_aop, s_ret, s_retv, s_go, s_pop, x_linc, x_finc, Value.category, if_icmp.holds, List.flatMap_cons, List.flatMap_nil, List.length_cons, List.length_append, List.length_nil, List.set_cons_succ, List.set_cons_zero, List.getElem?_cons_succ, List.getElem?_cons_zero, List.replicate, ite_and', ite_or', ite_int', nI_leI, nI_ltI, nI_eq, nI_add, nI_1, pk_mul, nI_clamp, n_in', nI_pos', nI_pos, n_m1e, n_01, n_10, sT_1, sR_1_0, sR_1_1, sR_1_2, sR_1_3, sR_1_4, sR_1_5, sR_1_6, sR_1_7, sR_1_8, sR_1_9, sT_2, sT_3, sT_4, sT_5, sT_6, sT_7, sT_8, sT_9, sT_10, sT_11, sT_12, sT_13, sT_14, sR_2_1, sR_2_2, sR_2_3, sR_2_4, sR_2_5, sR_2_6, sR_2_7, sR_2_8, sR_2_9, sR_2_10, sR_2_11, sR_2_12, sT_15, sT_16, sT_17, sT_18, sT_19, sT_20, sT_21, sT_22, sT_23, sR_15_1, sR_15_2, sR_15_3, sR_15_4, sR_15_5, sR_15_6, sR_15_7, sR_15_8, sT_24, sT_25, sT_26, sT_27, sT_28, sT_29, sR_24_1, sR_24_2, sR_24_3, sR_24_4, sR_24_5, sT_71, sT_72, sR_71_0, sR_71_1, sR_71_2, sR_71_3, sR_71_4, sT_73, sT_74, sT_75, sR_73_0, sR_73_1, sR_73_2, sR_73_3, sR_73_4, sR_73_5, sT_84, sT_85, sT_86, sT_87, sR_84_0, sR_84_1, sR_84_2, sR_84_3, sR_84_4, sR_84_5, sT_88, sT_89, sR_88_0, sT_90, sT_91, sR_90_0, hn, c2, hh2, R2, T2, hR3, ha0, u0, u4, n1, t4, hh3, R3, T3, u5, n2, t5, hh4, R4, T4]
  | false =>
    simp only [Bool.false_eq_true, if_false] at R4 T4 hs4 ⊢
    generalize hh4 : hSetI (hSetI (hSetI h 88 2 (nI (j + 1))) (a + 1) n (nI c1)) (a + 2) n (-1) = h4 at *
    generalize hh3 : hSetI (hSetI h 88 2 (nI (j + 1))) (a + 1) n (nI c1) = h3 at *
    generalize hh2 : hSetI h 88 2 (nI (j + 1)) = h2 at *
    simp (disch := first | assumption | omega) [kb_b, j_meth, j_out, j_rok, j_pad, lg_sl, s_seq_w, isN_inl, isN_inr, s_if, jb, x_c, x_iloc, x_aloc, x_lloc, x_bin, x_un, o_add, o_sub, o_mul, o_and, o_or, o_xor, o_shl, o_shr, o_ushr, o_max, o_min, o_i2b, o_i2c, o_i2l, o_l2i, x_fld, j_fget, x_idx, j_aget, x_len, j_alen, x_ofb, x_ite, xs_nil, xs_cons, x_callv, x_calls, s_callv, s_calls, j_recv, j_ret, j_retv, b_cmp, b_and, b_or, b_not, b_ofi, b_ite, b_true, s_skip, s_set, j_ty, j_lset, j_kill, s_inc, s_fput, j_fput, s_fop, s_aput, j_aput, j_nar, s_aop, s_ret, s_retv, s_go, s_pop, x_linc, x_finc, Value.category, if_icmp.holds, List.flatMap_cons, List.flatMap_nil, List.length_cons, List.length_append, List.length_nil, List.set_cons_succ, List.set_cons_zero, List.getElem?_cons_succ, List.getElem?_cons_zero, List.replicate, ite_and', ite_or', ite_int', nI_leI, nI_ltI, nI_eq, nI_add, nI_1, pk_mul, nI_clamp, n_in', nI_pos', nI_pos, n_m1e, n_01, n_10, sT_1, sR_1_0, sR_1_1, sR_1_2, sR_1_3, sR_1_4, sR_1_5, sR_1_6, sR_1_7, sR_1_8, sR_1_9, sT_2, sT_3, sT_4, sT_5, sT_6, sT_7, sT_8, sT_9, sT_10, sT_11, sT_12, sT_13, sT_14, sR_2_1, sR_2_2, sR_2_3, sR_2_4, sR_2_5, sR_2_6, sR_2_7, sR_2_8, sR_2_9, sR_2_10, sR_2_11, sR_2_12, sT_15, sT_16, sT_17, sT_18, sT_19, sT_20, sT_21, sT_22, sT_23, sR_15_1, sR_15_2, sR_15_3, sR_15_4, sR_15_5, sR_15_6, sR_15_7, sR_15_8, sT_24, sT_25, sT_26, sT_27, sT_28, sT_29, sR_24_1, sR_24_2, sR_24_3, sR_24_4, sR_24_5, sT_71, sT_72, sR_71_0, sR_71_1, sR_71_2, sR_71_3, sR_71_4, sT_73, sT_74, sT_75, sR_73_0, sR_73_1, sR_73_2, sR_73_3, sR_73_4, sR_73_5, sT_84, sT_85, sT_86, sT_87, sR_84_0, sR_84_1, sR_84_2, sR_84_3, sR_84_4, sR_84_5, sT_88, sT_89, sR_88_0, sT_90, sT_91, sR_90_0, n4345, hn, c2, hh2, R2, T2, hR3, ha0, u0, u4, n1, t4, hh3, R3, T3, u5, n2, t5, hh4, R4, T4]
/-- one key, evaluated -/
theorem rk_code {i a n c1 k : Nat} {w : Bool} {h : jHp} {v2 v3 : Value} (hs : Shape h) (ha : isCA a) (hn : n < 5) (hi : i < 2 ^ 27) (hc1 : c1 < 256) (hk5 : k < 5) (hix : j_ix (nI c1) = nI k) (hR3 : hR h 88 3 = a) (c2 : hI h 88 2 = nI i) (en : f_T_next [.ref 88] h = some (some (.int (nI (if w then 43 else 45))), h)) (en1 : f_T_next [.ref 88] (hSetI h 88 2 (nI (i + 1))) = some (some (.int (nI c1)), hSetI h 88 2 (nI (i + 1)))) : lstp 1 2 lc_T_readKeys_1 lb_T_readKeys_1 lu_T_readKeys_1 ([.ref 88, .int (nI n), v2, v3], h) = some (.inl ([.ref 88, .int (nI (n + 1)), .int (nI (if w then 43 else 45)), .int (nI c1)], hSetI (hSetI (hSetI (hSetI (hSetI h 88 2 (nI (i + 1))) 88 2 (nI (i + 1 + 1))) (a + 1) n (nI c1)) (a + 2) n (if w then nI 1 else -1)) a 3 (nI (n + 1)))) := by
  have hs1 : Shape (hSetI h 88 2 (nI (i + 1))) := hs
  have ea := kb_a_ok (v0 := .ref 88) (v1 := .int (nI n)) (v2 := .int (nI (if w then 43 else 45))) (h := hSetI h 88 2 (nI (i + 1))) hc1 hk5 hix
  have eb := kb_b_ok (j := i + 1) (n := n) (c1 := c1) (w := w) hs1 ha hn (by omega) hR3 (by rw [hI_setI, if_pos ⟨rfl, rfl⟩])
  have n4345 : (nI 45 = nI 43) = False := by decide
  generalize hSetI (hSetI (hSetI (hSetI (hSetI h 88 2 (nI (i + 1))) 88 2 (nI (i + 1 + 1))) (a + 1) n (nI c1)) (a + 2) n (if w then nI 1 else -1)) a 3 (nI (n + 1)) = hf at *
  generalize hh1 : hSetI h 88 2 (nI (i + 1)) = h1 at *
  clear hix
  cases w with
  | true =>
    simp only [if_true] at en ea eb ⊢
    simp (disch := first | assumption | omega) [lstp, lc_T_readKeys_1, lu_T_readKeys_1, kb_body, j_meth, j_out, j_rok, j_pad, lg_sl, s_seq_w, isN_inl, isN_inr, s_if, jb, x_c, x_iloc, x_aloc, x_lloc, x_bin, x_un, o_add, o_sub, o_mul, o_and, o_or, o_xor, o_shl, o_shr, o_ushr, o_max, o_min, o_i2b, o_i2c, o_i2l, o_l2i, x_fld, j_fget, x_idx, j_aget, x_len, j_alen, x_ofb, x_ite, xs_nil, xs_cons, x_callv, x_calls, s_callv, s_calls, j_recv, j_ret, j_retv, b_cmp, b_and, b_or, b_not, b_ofi, b_ite, b_true, s_skip, s_set, j_ty, j_lset, j_kill, s_inc, s_fput, j_fput, s_fop, s_aput, j_aput, j_nar, s_aop, s_ret, s_retv, s_go, s_pop, x_linc, x_finc, Value.category, if_icmp.holds, List.flatMap_cons, List.flatMap_nil, List.length_cons, List.length_append, List.length_nil, List.set_cons_succ, List.set_cons_zero, List.getElem?_cons_succ, List.getElem?_cons_zero, List.replicate, ite_and', ite_or', ite_int', nI_leI, nI_ltI, nI_eq, nI_add, nI_1, pk_mul, nI_clamp, n_in', nI_pos', nI_pos, n_m1e, n_01, n_10, sT_1, sR_1_0, sR_1_1, sR_1_2, sR_1_3, sR_1_4, sR_1_5, sR_1_6, sR_1_7, sR_1_8, sR_1_9, sT_2, sT_3, sT_4, sT_5, sT_6, sT_7, sT_8, sT_9, sT_10, sT_11, sT_12, sT_13, sT_14, sR_2_1, sR_2_2, sR_2_3, sR_2_4, sR_2_5, sR_2_6, sR_2_7, sR_2_8, sR_2_9, sR_2_10, sR_2_11, sR_2_12, sT_15, sT_16, sT_17, sT_18, sT_19, sT_20, sT_21, sT_22, sT_23, sR_15_1, sR_15_2, sR_15_3, sR_15_4, sR_15_5, sR_15_6, sR_15_7, sR_15_8, sT_24, sT_25, sT_26, sT_27, sT_28, sT_29, sR_24_1, sR_24_2, sR_24_3, sR_24_4, sR_24_5, sT_71, sT_72, sR_71_0, sR_71_1, sR_71_2, sR_71_3, sR_71_4, sT_73, sT_74, sT_75, sR_73_0, sR_73_1, sR_73_2, sR_73_3, sR_73_4, sR_73_5, sT_84, sT_85, sT_86, sT_87, sR_84_0, sR_84_1, sR_84_2, sR_84_3, sR_84_4, sR_84_5, sT_88, sT_89, sR_88_0, sT_90, sT_91, sR_90_0, hn, en, c2, hh1, en1, ea, eb]
  | false =>
    simp only [Bool.false_eq_true, if_false] at en ea eb ⊢
    simp (disch := first | assumption | omega) [lstp, lc_T_readKeys_1, lu_T_readKeys_1, kb_body, j_meth, j_out, j_rok, j_pad, lg_sl, s_seq_w, isN_inl, isN_inr, s_if, jb, x_c, x_iloc, x_aloc, x_lloc, x_bin, x_un, o_add, o_sub, o_mul, o_and, o_or, o_xor, o_shl, o_shr, o_ushr, o_max, o_min, o_i2b, o_i2c, o_i2l, o_l2i, x_fld, j_fget, x_idx, j_aget, x_len, j_alen, x_ofb, x_ite, xs_nil, xs_cons, x_callv, x_calls, s_callv, s_calls, j_recv, j_ret, j_retv, b_cmp, b_and, b_or, b_not, b_ofi, b_ite, b_true, s_skip, s_set, j_ty, j_lset, j_kill, s_inc, s_fput, j_fput, s_fop, s_aput, j_aput, j_nar, s_aop, s_ret, s_retv, s_go, s_pop, x_linc, x_finc, Value.category, if_icmp.holds, List.flatMap_cons, List.flatMap_nil, List.length_cons, List.length_append, List.length_nil, List.set_cons_succ, List.set_cons_zero, List.getElem?_cons_succ, List.getElem?_cons_zero, List.replicate, ite_and', ite_or', ite_int', nI_leI, nI_ltI, nI_eq, nI_add, nI_1, pk_mul, nI_clamp, n_in', nI_pos', nI_pos, n_m1e, n_01, n_10, sT_1, sR_1_0, sR_1_1, sR_1_2, sR_1_3, sR_1_4, sR_1_5, sR_1_6, sR_1_7, sR_1_8, sR_1_9, sT_2, sT_3, sT_4, sT_5, sT_6, sT_7, sT_8, sT_9, sT_10, sT_11, sT_12, sT_13, sT_14, sR_2_1, sR_2_2, sR_2_3, sR_2_4, sR_2_5, sR_2_6, sR_2_7, sR_2_8, sR_2_9, sR_2_10, sR_2_11, sR_2_12, sT_15, sT_16, sT_17, sT_18, sT_19, sT_20, sT_21, sT_22, sT_23, sR_15_1, sR_15_2, sR_15_3, sR_15_4, sR_15_5, sR_15_6, sR_15_7, sR_15_8, sT_24, sT_25, sT_26, sT_27, sT_28, sT_29, sR_24_1, sR_24_2, sR_24_3, sR_24_4, sR_24_5, sT_71, sT_72, sR_71_0, sR_71_1, sR_71_2, sR_71_3, sR_71_4, sT_73, sT_74, sT_75, sR_73_0, sR_73_1, sR_73_2, sR_73_3, sR_73_4, sR_73_5, sT_84, sT_85, sT_86, sT_87, sR_84_0, sR_84_1, sR_84_2, sR_84_3, sR_84_4, sR_84_5, sT_88, sT_89, sR_88_0, sT_90, sT_91, sR_90_0, hn, en, n4345, c2, hh1, en1, ea, eb]
theorem rk_step {tx : List Nat} {i a : Nat} {ks : List (Nat × Bool)} {h : jHp} {v2 v3 : Value} (r : RT tx i a h) (hi : i < 2 ^ 27) (hl : ks.length < 5) (c : RKc ks a h) : ∃ h', Fr (WK a) h h' ∧ ((∃ k w2 w3, isPM (tg tx i) = true ∧ pKey tx i = (some k, i + 2) ∧ lstp 1 2 lc_T_readKeys_1 lb_T_readKeys_1 lu_T_readKeys_1 ([.ref 88, .int (nI ks.length), v2, v3], h) = some (.inl ([.ref 88, .int (nI (ks.length + 1)), w2, w3], h')) ∧ RT tx (i + 2) a h' ∧ RKc (ks ++ [k]) a h') ∨ (∃ L j, isPM (tg tx i) = true ∧ pKey tx i = (none, j) ∧ lstp 1 2 lc_T_readKeys_1 lb_T_readKeys_1 lu_T_readKeys_1 ([.ref 88, .int (nI ks.length), v2, v3], h) = some (.inr (.inr (some (.int (nI 0))), (L, h'))) ∧ RT tx j a h') ∨ (∃ L, isPM (tg tx i) = false ∧ lstp 1 2 lc_T_readKeys_1 lb_T_readKeys_1 lu_T_readKeys_1 ([.ref 88, .int (nI ks.length), v2, v3], h) = some (.inr (.inr (some (.int (if ks.length = 0 then 0 else 1))), (L, h'))) ∧ RT tx i a h' ∧ h' = h)) := by
  have hs := r.1
  have ha := r.2.2.2.2.2.2
  have hal := CA_lt ha
  have hb := r.2.1.2
  have en := e_T_next r (by omega)
  have c2 := r.2.2.2.1
  have q43 := nx_eq hb i (c := 43) (by decide)
  have q45 := nx_eq hb i (c := 45) (by decide)
  have hpm : isPM (tg tx i) = true ↔ tg tx i = some 43 ∨ tg tx i = some 45 := by
    unfold isPM
    rw [Bool.or_eq_true, beq_iff_eq, beq_iff_eq]
  by_cases z : tg tx i = some 43 ∨ tg tx i = some 45
  · have hpt := hpm.mpr z
    have r1 := RT_adv (j := i + 1) r
    have f1 : Fr W882 h (hSetI h 88 2 (nI (i + 1))) := Fr_set _ ⟨rfl, rfl⟩
    have hs1 := r1.1
    have en1 := e_T_next r1 (by omega)
    have c21 := r1.2.2.2.1
    have cond : ¬ (¬ nx tx i = nI 43 ∧ ¬ nx tx i = nI 45) := by
      rw [q43, q45]
      rintro ⟨y1, y2⟩
      exact z.elim y1 y2
    have hcases : nx tx i = nI 43 ∨ nx tx i = nI 45 := by rw [q43, q45]; exact z
    have hkb : (tg tx i == some 43) = decide (nx tx i = nI 43) := by
      rw [Bool.eq_iff_iff, beq_iff_eq, decide_eq_true_iff, q43]
    have n4345 : (nI 45 = nI 43) = False := by decide
    cases ht : tg tx (i + 1) with
    | none =>
      refine ⟨hSetI h 88 2 (nI (i + 1)), Fr_mono f1 fun b j q => Or.inl q, Or.inr (Or.inl ⟨[.ref 88, .int (nI ks.length), .int (nx tx i), .int (nx tx (i + 1))], i + 1, hpt, ?_, ?_, r1⟩)⟩
      · unfold pKey; rw [if_pos hpt, ht]; rfl
      · have hneg := nx_neg ht
        generalize hh1 : hSetI h 88 2 (nI (i + 1)) = h1 at *
        generalize nx tx (i + 1) = v1 at *
        generalize nx tx i = v0 at *
        rcases hcases with e | e
        · subst e
          simp (disch := first | assumption | omega) [lstp, lc_T_readKeys_1, lb_T_readKeys_1, lu_T_readKeys_1, j_meth, j_out, j_rok, j_pad, lg_sl, s_seq_w, isN_inl, isN_inr, s_if, jb, x_c, x_iloc, x_aloc, x_lloc, x_bin, x_un, o_add, o_sub, o_mul, o_and, o_or, o_xor, o_shl, o_shr, o_ushr, o_max, o_min, o_i2b, o_i2c, o_i2l, o_l2i, x_fld, j_fget, x_idx, j_aget, x_len, j_alen, x_ofb, x_ite, xs_nil, xs_cons, x_callv, x_calls, s_callv, s_calls, j_recv, j_ret, j_retv, b_cmp, b_and, b_or, b_not, b_ofi, b_ite, b_true, s_skip, s_set, j_ty, j_lset, j_kill, s_inc, s_fput, j_fput, s_fop, s_aput, j_aput, j_nar, s_aop, s_ret, s_retv, s_go, s_pop, x_linc, x_finc, Value.category, if_icmp.holds, List.flatMap_cons, List.flatMap_nil, List.length_cons, List.length_append, List.length_nil, List.set_cons_succ, List.set_cons_zero, List.getElem?_cons_succ, List.getElem?_cons_zero, List.replicate, ite_and', ite_or', ite_int', nI_leI, nI_ltI, nI_eq, nI_add, nI_1, pk_mul, nI_clamp, n_in', nI_pos', nI_pos, n_m1e, n_01, n_10, sT_1, sR_1_0, sR_1_1, sR_1_2, sR_1_3, sR_1_4, sR_1_5, sR_1_6, sR_1_7, sR_1_8, sR_1_9, sT_2, sT_3, sT_4, sT_5, sT_6, sT_7, sT_8, sT_9, sT_10, sT_11, sT_12, sT_13, sT_14, sR_2_1, sR_2_2, sR_2_3, sR_2_4, sR_2_5, sR_2_6, sR_2_7, sR_2_8, sR_2_9, sR_2_10, sR_2_11, sR_2_12, sT_15, sT_16, sT_17, sT_18, sT_19, sT_20, sT_21, sT_22, sT_23, sR_15_1, sR_15_2, sR_15_3, sR_15_4, sR_15_5, sR_15_6, sR_15_7, sR_15_8, sT_24, sT_25, sT_26, sT_27, sT_28, sT_29, sR_24_1, sR_24_2, sR_24_3, sR_24_4, sR_24_5, sT_71, sT_72, sR_71_0, sR_71_1, sR_71_2, sR_71_3, sR_71_4, sT_73, sT_74, sT_75, sR_73_0, sR_73_1, sR_73_2, sR_73_3, sR_73_4, sR_73_5, sT_84, sT_85, sT_86, sT_87, sR_84_0, sR_84_1, sR_84_2, sR_84_3, sR_84_4, sR_84_5, sT_88, sT_89, sR_88_0, sT_90, sT_91, sR_90_0, hl, en, c2, hh1, en1, hneg]
        · subst e
          simp (disch := first | assumption | omega) [lstp, lc_T_readKeys_1, lb_T_readKeys_1, lu_T_readKeys_1, j_meth, j_out, j_rok, j_pad, lg_sl, s_seq_w, isN_inl, isN_inr, s_if, jb, x_c, x_iloc, x_aloc, x_lloc, x_bin, x_un, o_add, o_sub, o_mul, o_and, o_or, o_xor, o_shl, o_shr, o_ushr, o_max, o_min, o_i2b, o_i2c, o_i2l, o_l2i, x_fld, j_fget, x_idx, j_aget, x_len, j_alen, x_ofb, x_ite, xs_nil, xs_cons, x_callv, x_calls, s_callv, s_calls, j_recv, j_ret, j_retv, b_cmp, b_and, b_or, b_not, b_ofi, b_ite, b_true, s_skip, s_set, j_ty, j_lset, j_kill, s_inc, s_fput, j_fput, s_fop, s_aput, j_aput, j_nar, s_aop, s_ret, s_retv, s_go, s_pop, x_linc, x_finc, Value.category, if_icmp.holds, List.flatMap_cons, List.flatMap_nil, List.length_cons, List.length_append, List.length_nil, List.set_cons_succ, List.set_cons_zero, List.getElem?_cons_succ, List.getElem?_cons_zero, List.replicate, ite_and', ite_or', ite_int', nI_leI, nI_ltI, nI_eq, nI_add, nI_1, pk_mul, nI_clamp, n_in', nI_pos', nI_pos, n_m1e, n_01, n_10, sT_1, sR_1_0, sR_1_1, sR_1_2, sR_1_3, sR_1_4, sR_1_5, sR_1_6, sR_1_7, sR_1_8, sR_1_9, sT_2, sT_3, sT_4, sT_5, sT_6, sT_7, sT_8, sT_9, sT_10, sT_11, sT_12, sT_13, sT_14, sR_2_1, sR_2_2, sR_2_3, sR_2_4, sR_2_5, sR_2_6, sR_2_7, sR_2_8, sR_2_9, sR_2_10, sR_2_11, sR_2_12, sT_15, sT_16, sT_17, sT_18, sT_19, sT_20, sT_21, sT_22, sT_23, sR_15_1, sR_15_2, sR_15_3, sR_15_4, sR_15_5, sR_15_6, sR_15_7, sR_15_8, sT_24, sT_25, sT_26, sT_27, sT_28, sT_29, sR_24_1, sR_24_2, sR_24_3, sR_24_4, sR_24_5, sT_71, sT_72, sR_71_0, sR_71_1, sR_71_2, sR_71_3, sR_71_4, sT_73, sT_74, sT_75, sR_73_0, sR_73_1, sR_73_2, sR_73_3, sR_73_4, sR_73_5, sT_84, sT_85, sT_86, sT_87, sR_84_0, sR_84_1, sR_84_2, sR_84_3, sR_84_4, sR_84_5, sT_88, sT_89, sR_88_0, sT_90, sT_91, sR_90_0, hl, en, n4345, c2, hh1, en1, hneg]
    | some c1 =>
      have hc1 := (tg_256 hb ht).1
      have hnx1 : nx tx (i + 1) = nI c1 := by unfold nx; rw [ht]
      rw [hnx1] at en1
      have h0 : ¬ nI c1 < 0 := Int32.not_lt.mpr (nI_pos' (by omega))
      have hix := ixc c1 hc1
      cases hlt : ltI c1 with
      | none =>
        refine ⟨hSetI h 88 2 (nI (i + 1)), Fr_mono f1 fun b j q => Or.inl q, Or.inr (Or.inl ⟨[.ref 88, .int (nI ks.length), .int (nx tx i), .int (nI c1)], i + 1, hpt, ?_, ?_, r1⟩)⟩
        · unfold pKey; rw [if_pos hpt, ht]; simp only [Option.bind_some, hlt]
        · rw [hlt, oI_n] at hix
          have hm1 : (-1 : Int32) < 0 := by decide
          have hA := kb_a_no (v0 := .ref 88) (v1 := .int (nI ks.length)) (v2 := .int (nx tx i)) (h := hSetI h 88 2 (nI (i + 1))) hc1 hix
          generalize hh1 : hSetI h 88 2 (nI (i + 1)) = h1 at *
          generalize nx tx i = v0 at *
          clear hix
          rcases hcases with e | e
          · subst e
            simp (disch := first | assumption | omega) [lstp, lc_T_readKeys_1, lu_T_readKeys_1, kb_body, j_meth, j_out, j_rok, j_pad, lg_sl, s_seq_w, isN_inl, isN_inr, s_if, jb, x_c, x_iloc, x_aloc, x_lloc, x_bin, x_un, o_add, o_sub, o_mul, o_and, o_or, o_xor, o_shl, o_shr, o_ushr, o_max, o_min, o_i2b, o_i2c, o_i2l, o_l2i, x_fld, j_fget, x_idx, j_aget, x_len, j_alen, x_ofb, x_ite, xs_nil, xs_cons, x_callv, x_calls, s_callv, s_calls, j_recv, j_ret, j_retv, b_cmp, b_and, b_or, b_not, b_ofi, b_ite, b_true, s_skip, s_set, j_ty, j_lset, j_kill, s_inc, s_fput, j_fput, s_fop, s_aput, j_aput, j_nar, s_aop, s_ret, s_retv, s_go, s_pop, x_linc, x_finc, Value.category, if_icmp.holds, List.flatMap_cons, List.flatMap_nil, List.length_cons, List.length_append, List.length_nil, List.set_cons_succ, List.set_cons_zero, List.getElem?_cons_succ, List.getElem?_cons_zero, List.replicate, ite_and', ite_or', ite_int', nI_leI, nI_ltI, nI_eq, nI_add, nI_1, pk_mul, nI_clamp, n_in', nI_pos', nI_pos, n_m1e, n_01, n_10, sT_1, sR_1_0, sR_1_1, sR_1_2, sR_1_3, sR_1_4, sR_1_5, sR_1_6, sR_1_7, sR_1_8, sR_1_9, sT_2, sT_3, sT_4, sT_5, sT_6, sT_7, sT_8, sT_9, sT_10, sT_11, sT_12, sT_13, sT_14, sR_2_1, sR_2_2, sR_2_3, sR_2_4, sR_2_5, sR_2_6, sR_2_7, sR_2_8, sR_2_9, sR_2_10, sR_2_11, sR_2_12, sT_15, sT_16, sT_17, sT_18, sT_19, sT_20, sT_21, sT_22, sT_23, sR_15_1, sR_15_2, sR_15_3, sR_15_4, sR_15_5, sR_15_6, sR_15_7, sR_15_8, sT_24, sT_25, sT_26, sT_27, sT_28, sT_29, sR_24_1, sR_24_2, sR_24_3, sR_24_4, sR_24_5, sT_71, sT_72, sR_71_0, sR_71_1, sR_71_2, sR_71_3, sR_71_4, sT_73, sT_74, sT_75, sR_73_0, sR_73_1, sR_73_2, sR_73_3, sR_73_4, sR_73_5, sT_84, sT_85, sT_86, sT_87, sR_84_0, sR_84_1, sR_84_2, sR_84_3, sR_84_4, sR_84_5, sT_88, sT_89, sR_88_0, sT_90, sT_91, sR_90_0, hl, en, c2, hh1, en1, hA]
          · subst e
            simp (disch := first | assumption | omega) [lstp, lc_T_readKeys_1, lu_T_readKeys_1, kb_body, j_meth, j_out, j_rok, j_pad, lg_sl, s_seq_w, isN_inl, isN_inr, s_if, jb, x_c, x_iloc, x_aloc, x_lloc, x_bin, x_un, o_add, o_sub, o_mul, o_and, o_or, o_xor, o_shl, o_shr, o_ushr, o_max, o_min, o_i2b, o_i2c, o_i2l, o_l2i, x_fld, j_fget, x_idx, j_aget, x_len, j_alen, x_ofb, x_ite, xs_nil, xs_cons, x_callv, x_calls, s_callv, s_calls, j_recv, j_ret, j_retv, b_cmp, b_and, b_or, b_not, b_ofi, b_ite, b_true, s_skip, s_set, j_ty, j_lset, j_kill, s_inc, s_fput, j_fput, s_fop, s_aput, j_aput, j_nar, s_aop, s_ret, s_retv, s_go, s_pop, x_linc, x_finc, Value.category, if_icmp.holds, List.flatMap_cons, List.flatMap_nil, List.length_cons, List.length_append, List.length_nil, List.set_cons_succ, List.set_cons_zero, List.getElem?_cons_succ, List.getElem?_cons_zero, List.replicate, ite_and', ite_or', ite_int', nI_leI, nI_ltI, nI_eq, nI_add, nI_1, pk_mul, nI_clamp, n_in', nI_pos', nI_pos, n_m1e, n_01, n_10, sT_1, sR_1_0, sR_1_1, sR_1_2, sR_1_3, sR_1_4, sR_1_5, sR_1_6, sR_1_7, sR_1_8, sR_1_9, sT_2, sT_3, sT_4, sT_5, sT_6, sT_7, sT_8, sT_9, sT_10, sT_11, sT_12, sT_13, sT_14, sR_2_1, sR_2_2, sR_2_3, sR_2_4, sR_2_5, sR_2_6, sR_2_7, sR_2_8, sR_2_9, sR_2_10, sR_2_11, sR_2_12, sT_15, sT_16, sT_17, sT_18, sT_19, sT_20, sT_21, sT_22, sT_23, sR_15_1, sR_15_2, sR_15_3, sR_15_4, sR_15_5, sR_15_6, sR_15_7, sR_15_8, sT_24, sT_25, sT_26, sT_27, sT_28, sT_29, sR_24_1, sR_24_2, sR_24_3, sR_24_4, sR_24_5, sT_71, sT_72, sR_71_0, sR_71_1, sR_71_2, sR_71_3, sR_71_4, sT_73, sT_74, sT_75, sR_73_0, sR_73_1, sR_73_2, sR_73_3, sR_73_4, sR_73_5, sT_84, sT_85, sT_86, sT_87, sR_84_0, sR_84_1, sR_84_2, sR_84_3, sR_84_4, sR_84_5, sT_88, sT_89, sR_88_0, sT_90, sT_91, sR_90_0, hl, en, n4345, c2, hh1, en1, hA]
      | some k =>
        have hk5 := ltI_5 hlt
        have hkc := ltK_I c1 hc1 k hk5 hlt
        rw [hlt, oI_s] at hix
        have hk0 : ¬ nI k < 0 := Int32.not_lt.mpr (nI_pos' (by omega))
        have hpk : pKey tx i = (some (k, tg tx i == some 43), i + 2) := by unfold pKey; rw [if_pos hpt, ht]; simp only [Option.bind_some, hlt]
        obtain ⟨u0, u4, u5, -, -, -, t4, t5, -⟩ := CA_of hs ha
        have hR3 := r.2.2.2.2.2.1
        have ha0 : a ≠ 0 := by omega
        have n1 : a + 1 ≠ 0 := by omega
        have n2 : a + 2 ≠ 0 := by omega
        have f2 : Fr (WK a) h (hSetI (hSetI (hSetI (hSetI (hSetI h 88 2 (nI (i + 1))) 88 2 (nI (i + 2))) (a + 1) ks.length (nI c1)) (a + 2) ks.length (if nx tx i = nI 43 then nI 1 else -1)) a 3 (nI (ks.length + 1))) := Fr_trans (Fr_trans (Fr_trans (Fr_trans (Fr_set _ (Or.inl ⟨rfl, rfl⟩)) (Fr_set _ (Or.inl ⟨rfl, rfl⟩))) (Fr_set _ (Or.inr (Or.inr (Or.inl rfl))))) (Fr_set _ (Or.inr (Or.inr (Or.inr rfl))))) (Fr_set _ (Or.inr (Or.inl ⟨rfl, rfl⟩)))
        have r2 := RT_adv (j := i + 2) r1
        have r3 : RT tx (i + 2) a (hSetI (hSetI (hSetI (hSetI (hSetI h 88 2 (nI (i + 1))) 88 2 (nI (i + 2))) (a + 1) ks.length (nI c1)) (a + 2) ks.length (if nx tx i = nI 43 then nI 1 else -1)) a 3 (nI (ks.length + 1))) := RT_fr (W := fun b _ => a ≤ b ∧ b ≤ a + 2) r2 (Fr_trans (Fr_trans (Fr_set _ ⟨by omega, by omega⟩) (Fr_set _ ⟨by omega, by omega⟩)) (Fr_set _ ⟨by omega, by omega⟩)) (fun b j z => by omega)
        refine ⟨_, f2, Or.inl ⟨(k, tg tx i == some 43), .int (nx tx i), .int (nI c1), hpt, hpk, ?_, r3, ?_⟩⟩
        · rcases hcases with e | e
          · have := rk_code (w := true) (v2 := v2) (v3 := v3) hs ha hl hi hc1 hk5 hix hR3 c2 (by rw [en, e]; rfl) en1
            rw [e, if_pos rfl]
            simpa using this
          · have := rk_code (w := false) (v2 := v2) (v3 := v3) hs ha hl hi hc1 hk5 hix hR3 c2 (by rw [en, e]; rfl) en1
            rw [e, if_neg (by decide)]
            simpa using this
        · refine ⟨by rw [hI_setI, if_pos ⟨rfl, rfl⟩]; simp, fun m hm => ?_⟩
          simp only [List.length_append, List.length_cons, List.length_nil] at hm
          by_cases e : m = ks.length
          · have hgd : (ks ++ [(k, tg tx i == some 43)]).getD m (0, true) = (k, tg tx i == some 43) := by rw [e]; simp
            rw [hgd]
            refine ⟨?_, ?_⟩
            · rw [hI_setI, if_neg (by omega), hI_setI, if_neg (by omega), hI_setI, if_pos ⟨rfl, e⟩, hkc]
            · rw [hI_setI, if_neg (by omega), hI_setI, if_pos ⟨rfl, e⟩, hkb]
              by_cases y : nx tx i = nI 43
              · simp [y]; decide
              · simp [y]
          · have hgd : (ks ++ [(k, tg tx i == some 43)]).getD m (0, true) = ks.getD m (0, true) := by
              rw [List.getD_eq_getElem?_getD, List.getD_eq_getElem?_getD, List.getElem?_append_left (by omega)]
            rw [hgd]
            have := c.2 m (by omega)
            refine ⟨?_, ?_⟩
            · rw [hI_setI, if_neg (by omega), hI_setI, if_neg (by omega), hI_setI, if_neg (by omega), hI_setI, if_neg (by omega), hI_setI, if_neg (by omega)]; exact this.1
            · rw [hI_setI, if_neg (by omega), hI_setI, if_neg (by omega), hI_setI, if_neg (by omega), hI_setI, if_neg (by omega), hI_setI, if_neg (by omega)]; exact this.2
  · have hpf : isPM (tg tx i) = false := by
      cases q : isPM (tg tx i) with
      | false => rfl
      | true => exact absurd (hpm.mp q) z
    refine ⟨h, Fr_refl _ _, Or.inr (Or.inr ⟨[.ref 88, .int (nI ks.length), .int (nx tx i), v3], hpf, ?_, r, rfl⟩)⟩
    have y1 : ¬ nx tx i = nI 43 := by rw [q43]; exact fun q => z (Or.inl q)
    have y2 : ¬ nx tx i = nI 45 := by rw [q45]; exact fun q => z (Or.inr q)
    generalize nx tx i = v0 at *
    generalize ks.length = n at *
    by_cases e : n = 0
    · subst e
      have h05 : (0 : Int32) < nI 5 := by decide
      simp (disch := first | assumption | omega) [lstp, lc_T_readKeys_1, lb_T_readKeys_1, lu_T_readKeys_1, j_meth, j_out, j_rok, j_pad, lg_sl, s_seq_w, isN_inl, isN_inr, s_if, jb, x_c, x_iloc, x_aloc, x_lloc, x_bin, x_un, o_add, o_sub, o_mul, o_and, o_or, o_xor, o_shl, o_shr, o_ushr, o_max, o_min, o_i2b, o_i2c, o_i2l, o_l2i, x_fld, j_fget, x_idx, j_aget, x_len, j_alen, x_ofb, x_ite, xs_nil, xs_cons, x_callv, x_calls, s_callv, s_calls, j_recv, j_ret, j_retv, b_cmp, b_and, b_or, b_not, b_ofi, b_ite, b_true, s_skip, s_set, j_ty, j_lset, j_kill, s_inc, s_fput, j_fput, s_fop, s_aput, j_aput, j_nar, s_aop, s_ret, s_retv, s_go, s_pop, x_linc, x_finc, Value.category, if_icmp.holds, List.flatMap_cons, List.flatMap_nil, List.length_cons, List.length_append, List.length_nil, List.set_cons_succ, List.set_cons_zero, List.getElem?_cons_succ, List.getElem?_cons_zero, List.replicate, ite_and', ite_or', ite_int', nI_leI, nI_ltI, nI_eq, nI_add, nI_1, pk_mul, nI_clamp, n_in', nI_pos', nI_pos, n_m1e, n_01, n_10, sT_1, sR_1_0, sR_1_1, sR_1_2, sR_1_3, sR_1_4, sR_1_5, sR_1_6, sR_1_7, sR_1_8, sR_1_9, sT_2, sT_3, sT_4, sT_5, sT_6, sT_7, sT_8, sT_9, sT_10, sT_11, sT_12, sT_13, sT_14, sR_2_1, sR_2_2, sR_2_3, sR_2_4, sR_2_5, sR_2_6, sR_2_7, sR_2_8, sR_2_9, sR_2_10, sR_2_11, sR_2_12, sT_15, sT_16, sT_17, sT_18, sT_19, sT_20, sT_21, sT_22, sT_23, sR_15_1, sR_15_2, sR_15_3, sR_15_4, sR_15_5, sR_15_6, sR_15_7, sR_15_8, sT_24, sT_25, sT_26, sT_27, sT_28, sT_29, sR_24_1, sR_24_2, sR_24_3, sR_24_4, sR_24_5, sT_71, sT_72, sR_71_0, sR_71_1, sR_71_2, sR_71_3, sR_71_4, sT_73, sT_74, sT_75, sR_73_0, sR_73_1, sR_73_2, sR_73_3, sR_73_4, sR_73_5, sT_84, sT_85, sT_86, sT_87, sR_84_0, sR_84_1, sR_84_2, sR_84_3, sR_84_4, sR_84_5, sT_88, sT_89, sR_88_0, sT_90, sT_91, sR_90_0, en, y1, y2, nI_0, h05]
    · have hp : (0 : Int32) < nI n := by
        have h0 : (0 : Int32) = nI 0 := nI_0.symm
        rw [h0, nI_ltI (by omega) (by omega)]
        omega
      simp (disch := first | assumption | omega) [lstp, lc_T_readKeys_1, lb_T_readKeys_1, lu_T_readKeys_1, j_meth, j_out, j_rok, j_pad, lg_sl, s_seq_w, isN_inl, isN_inr, s_if, jb, x_c, x_iloc, x_aloc, x_lloc, x_bin, x_un, o_add, o_sub, o_mul, o_and, o_or, o_xor, o_shl, o_shr, o_ushr, o_max, o_min, o_i2b, o_i2c, o_i2l, o_l2i, x_fld, j_fget, x_idx, j_aget, x_len, j_alen, x_ofb, x_ite, xs_nil, xs_cons, x_callv, x_calls, s_callv, s_calls, j_recv, j_ret, j_retv, b_cmp, b_and, b_or, b_not, b_ofi, b_ite, b_true, s_skip, s_set, j_ty, j_lset, j_kill, s_inc, s_fput, j_fput, s_fop, s_aput, j_aput, j_nar, s_aop, s_ret, s_retv, s_go, s_pop, x_linc, x_finc, Value.category, if_icmp.holds, List.flatMap_cons, List.flatMap_nil, List.length_cons, List.length_append, List.length_nil, List.set_cons_succ, List.set_cons_zero, List.getElem?_cons_succ, List.getElem?_cons_zero, List.replicate, ite_and', ite_or', ite_int', nI_leI, nI_ltI, nI_eq, nI_add, nI_1, pk_mul, nI_clamp, n_in', nI_pos', nI_pos, n_m1e, n_01, n_10, sT_1, sR_1_0, sR_1_1, sR_1_2, sR_1_3, sR_1_4, sR_1_5, sR_1_6, sR_1_7, sR_1_8, sR_1_9, sT_2, sT_3, sT_4, sT_5, sT_6, sT_7, sT_8, sT_9, sT_10, sT_11, sT_12, sT_13, sT_14, sR_2_1, sR_2_2, sR_2_3, sR_2_4, sR_2_5, sR_2_6, sR_2_7, sR_2_8, sR_2_9, sR_2_10, sR_2_11, sR_2_12, sT_15, sT_16, sT_17, sT_18, sT_19, sT_20, sT_21, sT_22, sT_23, sR_15_1, sR_15_2, sR_15_3, sR_15_4, sR_15_5, sR_15_6, sR_15_7, sR_15_8, sT_24, sT_25, sT_26, sT_27, sT_28, sT_29, sR_24_1, sR_24_2, sR_24_3, sR_24_4, sR_24_5, sT_71, sT_72, sR_71_0, sR_71_1, sR_71_2, sR_71_3, sR_71_4, sT_73, sT_74, sT_75, sR_73_0, sR_73_1, sR_73_2, sR_73_3, sR_73_4, sR_73_5, sT_84, sT_85, sT_86, sT_87, sR_84_0, sR_84_1, sR_84_2, sR_84_3, sR_84_4, sR_84_5, sT_88, sT_89, sR_88_0, sT_90, sT_91, sR_90_0, hl, en, y1, y2, hp, e]
