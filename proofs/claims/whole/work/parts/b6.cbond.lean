/-! bond -/
theorem e_B_join {h : jHp} (hs : Shape h) {n p f c y t F Q sp sl : Nat} (hn : n < 20) (hp : p < 7) (hf : f < 4) (hF : F < 8) (hQ : Q < 5) (r0 : hI h 2 0 = nI n) (r10 : hI h 10 f = nI F) (r11 : hI h 11 p = nI Q) (r13 : hI h 13 p = nI sp) (r14 : hI h 14 p = nI sl) : ∃ h', f_B_join [.ref 2, .int (nI p), .int (nI f), .int (nI c), .int (nI y), .int (nI t)] h = some (some (.int (nI n)), h') ∧ Fr (fun a _ => 2 ≤ a ∧ a ≤ 14) h h' ∧ ∀ a j, hI h' a j = if a = 2 ∧ j = 0 then nI (n + 1) else if a = 11 ∧ j = p then nI (Q + 1) else if a = 10 ∧ j = f then nI (F + 1) else if a = 14 ∧ j = p then nI (sl ||| 2 ^ (8 * f + F)) else if a = 13 ∧ j = p then nI (sp ||| 2 ^ n) else if a = 12 ∧ j = 5 * p + Q then nI n else if a = 9 ∧ j = 8 * f + F then nI n else if a = 8 ∧ j = n then nI (8 * f + F) else if a = 7 ∧ j = n then nI t else if a = 6 ∧ j = n then nI y else if a = 5 ∧ j = n then nI c else if a = 4 ∧ j = n then nI f else if a = 3 ∧ j = n then nI p else hI h a j := by
  refine ⟨hSetI (hSetI (hSetI (hSetI (hSetI (hSetI (hSetI (hSetI (hSetI (hSetI (hSetI (hSetI (hSetI h 3 n (nI p)) 4 n (nI f)) 5 n (nI c)) 6 n (nI y)) 7 n (nI t)) 8 n (nI (8 * f + F))) 9 (8 * f + F) (nI n)) 12 (5 * p + Q) (nI n)) 13 p (nI (sp ||| 2 ^ n))) 14 p (nI (sl ||| 2 ^ (8 * f + F)))) 10 f (nI (F + 1))) 11 p (nI (Q + 1))) 2 0 (nI (n + 1)), ?_, Fr_trans (Fr_trans (Fr_trans (Fr_trans (Fr_trans (Fr_trans (Fr_trans (Fr_trans (Fr_trans (Fr_trans (Fr_trans (Fr_trans (Fr_set _ (by omega)) (Fr_set _ (by omega))) (Fr_set _ (by omega))) (Fr_set _ (by omega))) (Fr_set _ (by omega))) (Fr_set _ (by omega))) (Fr_set _ (by omega))) (Fr_set _ (by omega))) (Fr_set _ (by omega))) (Fr_set _ (by omega))) (Fr_set _ (by omega))) (Fr_set _ (by omega))) (Fr_set _ (by omega)), fun a j => by rw [hI_setI, hI_setI, hI_setI, hI_setI, hI_setI, hI_setI, hI_setI, hI_setI, hI_setI, hI_setI, hI_setI, hI_setI, hI_setI]⟩
  · have hsn := n_shl 1 (k := n) (by omega)
    have hss := n_shl 1 (k := 8 * f + F) (by omega)
    rw [Nat.one_mul] at hsn hss
    have e8 : f * 8 + F = 8 * f + F := by omega
    have e5 : p * 5 + Q = 5 * p + Q := by omega
    have hs1 : Shape (hSetI h 3 n (nI p)) := hs
    have hs2 : Shape (hSetI (hSetI h 3 n (nI p)) 4 n (nI f)) := hs
    have hs3 : Shape (hSetI (hSetI (hSetI h 3 n (nI p)) 4 n (nI f)) 5 n (nI c)) := hs
    have hs4 : Shape (hSetI (hSetI (hSetI (hSetI h 3 n (nI p)) 4 n (nI f)) 5 n (nI c)) 6 n (nI y)) := hs
    have hs5 : Shape (hSetI (hSetI (hSetI (hSetI (hSetI h 3 n (nI p)) 4 n (nI f)) 5 n (nI c)) 6 n (nI y)) 7 n (nI t)) := hs
    have hs6 : Shape (hSetI (hSetI (hSetI (hSetI (hSetI (hSetI h 3 n (nI p)) 4 n (nI f)) 5 n (nI c)) 6 n (nI y)) 7 n (nI t)) 8 n (nI (8 * f + F))) := hs
    have hs7 : Shape (hSetI (hSetI (hSetI (hSetI (hSetI (hSetI (hSetI h 3 n (nI p)) 4 n (nI f)) 5 n (nI c)) 6 n (nI y)) 7 n (nI t)) 8 n (nI (8 * f + F))) 9 (8 * f + F) (nI n)) := hs
    have hs8 : Shape (hSetI (hSetI (hSetI (hSetI (hSetI (hSetI (hSetI (hSetI h 3 n (nI p)) 4 n (nI f)) 5 n (nI c)) 6 n (nI y)) 7 n (nI t)) 8 n (nI (8 * f + F))) 9 (8 * f + F) (nI n)) 12 (5 * p + Q) (nI n)) := hs
    have hs9 : Shape (hSetI (hSetI (hSetI (hSetI (hSetI (hSetI (hSetI (hSetI (hSetI h 3 n (nI p)) 4 n (nI f)) 5 n (nI c)) 6 n (nI y)) 7 n (nI t)) 8 n (nI (8 * f + F))) 9 (8 * f + F) (nI n)) 12 (5 * p + Q) (nI n)) 13 p (nI (sp ||| 2 ^ n))) := hs
    have hs10 : Shape (hSetI (hSetI (hSetI (hSetI (hSetI (hSetI (hSetI (hSetI (hSetI (hSetI h 3 n (nI p)) 4 n (nI f)) 5 n (nI c)) 6 n (nI y)) 7 n (nI t)) 8 n (nI (8 * f + F))) 9 (8 * f + F) (nI n)) 12 (5 * p + Q) (nI n)) 13 p (nI (sp ||| 2 ^ n))) 14 p (nI (sl ||| 2 ^ (8 * f + F)))) := hs
    have hs11 : Shape (hSetI (hSetI (hSetI (hSetI (hSetI (hSetI (hSetI (hSetI (hSetI (hSetI (hSetI h 3 n (nI p)) 4 n (nI f)) 5 n (nI c)) 6 n (nI y)) 7 n (nI t)) 8 n (nI (8 * f + F))) 9 (8 * f + F) (nI n)) 12 (5 * p + Q) (nI n)) 13 p (nI (sp ||| 2 ^ n))) 14 p (nI (sl ||| 2 ^ (8 * f + F)))) 10 f (nI (F + 1))) := hs
    have hs12 : Shape (hSetI (hSetI (hSetI (hSetI (hSetI (hSetI (hSetI (hSetI (hSetI (hSetI (hSetI (hSetI h 3 n (nI p)) 4 n (nI f)) 5 n (nI c)) 6 n (nI y)) 7 n (nI t)) 8 n (nI (8 * f + F))) 9 (8 * f + F) (nI n)) 12 (5 * p + Q) (nI n)) 13 p (nI (sp ||| 2 ^ n))) 14 p (nI (sl ||| 2 ^ (8 * f + F)))) 10 f (nI (F + 1))) 11 p (nI (Q + 1))) := hs
    have hs13 : Shape (hSetI (hSetI (hSetI (hSetI (hSetI (hSetI (hSetI (hSetI (hSetI (hSetI (hSetI (hSetI (hSetI h 3 n (nI p)) 4 n (nI f)) 5 n (nI c)) 6 n (nI y)) 7 n (nI t)) 8 n (nI (8 * f + F))) 9 (8 * f + F) (nI n)) 12 (5 * p + Q) (nI n)) 13 p (nI (sp ||| 2 ^ n))) 14 p (nI (sl ||| 2 ^ (8 * f + F)))) 10 f (nI (F + 1))) 11 p (nI (Q + 1))) 2 0 (nI (n + 1))) := hs
    have a5 : hI (hSetI (hSetI (hSetI (hSetI (hSetI h 3 n (nI p)) 4 n (nI f)) 5 n (nI c)) 6 n (nI y)) 7 n (nI t)) 10 f = nI F := by
      repeat rw [hI_setI, if_neg (by omega)]
      exact r10
    have a6 : hI (hSetI (hSetI (hSetI (hSetI (hSetI (hSetI h 3 n (nI p)) 4 n (nI f)) 5 n (nI c)) 6 n (nI y)) 7 n (nI t)) 8 n (nI (8 * f + F))) 8 n = nI (8 * f + F) := by
      repeat rw [hI_setI, if_neg (by omega)]
      rw [hI_setI, if_pos ⟨rfl, rfl⟩]
    have a7 : hI (hSetI (hSetI (hSetI (hSetI (hSetI (hSetI (hSetI h 3 n (nI p)) 4 n (nI f)) 5 n (nI c)) 6 n (nI y)) 7 n (nI t)) 8 n (nI (8 * f + F))) 9 (8 * f + F) (nI n)) 11 p = nI Q := by
      repeat rw [hI_setI, if_neg (by omega)]
      exact r11
    have a8 : hI (hSetI (hSetI (hSetI (hSetI (hSetI (hSetI (hSetI (hSetI h 3 n (nI p)) 4 n (nI f)) 5 n (nI c)) 6 n (nI y)) 7 n (nI t)) 8 n (nI (8 * f + F))) 9 (8 * f + F) (nI n)) 12 (5 * p + Q) (nI n)) 13 p = nI sp := by
      repeat rw [hI_setI, if_neg (by omega)]
      exact r13
    have a9 : hI (hSetI (hSetI (hSetI (hSetI (hSetI (hSetI (hSetI (hSetI (hSetI h 3 n (nI p)) 4 n (nI f)) 5 n (nI c)) 6 n (nI y)) 7 n (nI t)) 8 n (nI (8 * f + F))) 9 (8 * f + F) (nI n)) 12 (5 * p + Q) (nI n)) 13 p (nI (sp ||| 2 ^ n))) 8 n = nI (8 * f + F) := by
      repeat rw [hI_setI, if_neg (by omega)]
      rw [hI_setI, if_pos ⟨rfl, rfl⟩]
    have b9 : hI (hSetI (hSetI (hSetI (hSetI (hSetI (hSetI (hSetI (hSetI (hSetI h 3 n (nI p)) 4 n (nI f)) 5 n (nI c)) 6 n (nI y)) 7 n (nI t)) 8 n (nI (8 * f + F))) 9 (8 * f + F) (nI n)) 12 (5 * p + Q) (nI n)) 13 p (nI (sp ||| 2 ^ n))) 14 p = nI sl := by
      repeat rw [hI_setI, if_neg (by omega)]
      exact r14
    have a10 : hI (hSetI (hSetI (hSetI (hSetI (hSetI (hSetI (hSetI (hSetI (hSetI (hSetI h 3 n (nI p)) 4 n (nI f)) 5 n (nI c)) 6 n (nI y)) 7 n (nI t)) 8 n (nI (8 * f + F))) 9 (8 * f + F) (nI n)) 12 (5 * p + Q) (nI n)) 13 p (nI (sp ||| 2 ^ n))) 14 p (nI (sl ||| 2 ^ (8 * f + F)))) 10 f = nI F := by
      repeat rw [hI_setI, if_neg (by omega)]
      exact r10
    have a11 : hI (hSetI (hSetI (hSetI (hSetI (hSetI (hSetI (hSetI (hSetI (hSetI (hSetI (hSetI h 3 n (nI p)) 4 n (nI f)) 5 n (nI c)) 6 n (nI y)) 7 n (nI t)) 8 n (nI (8 * f + F))) 9 (8 * f + F) (nI n)) 12 (5 * p + Q) (nI n)) 13 p (nI (sp ||| 2 ^ n))) 14 p (nI (sl ||| 2 ^ (8 * f + F)))) 10 f (nI (F + 1))) 11 p = nI Q := by
      repeat rw [hI_setI, if_neg (by omega)]
      exact r11
    have a12 : hI (hSetI (hSetI (hSetI (hSetI (hSetI (hSetI (hSetI (hSetI (hSetI (hSetI (hSetI (hSetI h 3 n (nI p)) 4 n (nI f)) 5 n (nI c)) 6 n (nI y)) 7 n (nI t)) 8 n (nI (8 * f + F))) 9 (8 * f + F) (nI n)) 12 (5 * p + Q) (nI n)) 13 p (nI (sp ||| 2 ^ n))) 14 p (nI (sl ||| 2 ^ (8 * f + F)))) 10 f (nI (F + 1))) 11 p (nI (Q + 1))) 2 0 = nI n := by
      repeat rw [hI_setI, if_neg (by omega)]
      exact r0
    clear r10 r11 r13 r14
    generalize h13e : hSetI (hSetI (hSetI (hSetI (hSetI (hSetI (hSetI (hSetI (hSetI (hSetI (hSetI (hSetI (hSetI h 3 n (nI p)) 4 n (nI f)) 5 n (nI c)) 6 n (nI y)) 7 n (nI t)) 8 n (nI (8 * f + F))) 9 (8 * f + F) (nI n)) 12 (5 * p + Q) (nI n)) 13 p (nI (sp ||| 2 ^ n))) 14 p (nI (sl ||| 2 ^ (8 * f + F)))) 10 f (nI (F + 1))) 11 p (nI (Q + 1))) 2 0 (nI (n + 1)) = h13 at *
    generalize h12e : hSetI (hSetI (hSetI (hSetI (hSetI (hSetI (hSetI (hSetI (hSetI (hSetI (hSetI (hSetI h 3 n (nI p)) 4 n (nI f)) 5 n (nI c)) 6 n (nI y)) 7 n (nI t)) 8 n (nI (8 * f + F))) 9 (8 * f + F) (nI n)) 12 (5 * p + Q) (nI n)) 13 p (nI (sp ||| 2 ^ n))) 14 p (nI (sl ||| 2 ^ (8 * f + F)))) 10 f (nI (F + 1))) 11 p (nI (Q + 1)) = h12 at *
    generalize h11e : hSetI (hSetI (hSetI (hSetI (hSetI (hSetI (hSetI (hSetI (hSetI (hSetI (hSetI h 3 n (nI p)) 4 n (nI f)) 5 n (nI c)) 6 n (nI y)) 7 n (nI t)) 8 n (nI (8 * f + F))) 9 (8 * f + F) (nI n)) 12 (5 * p + Q) (nI n)) 13 p (nI (sp ||| 2 ^ n))) 14 p (nI (sl ||| 2 ^ (8 * f + F)))) 10 f (nI (F + 1)) = h11 at *
    generalize h10e : hSetI (hSetI (hSetI (hSetI (hSetI (hSetI (hSetI (hSetI (hSetI (hSetI h 3 n (nI p)) 4 n (nI f)) 5 n (nI c)) 6 n (nI y)) 7 n (nI t)) 8 n (nI (8 * f + F))) 9 (8 * f + F) (nI n)) 12 (5 * p + Q) (nI n)) 13 p (nI (sp ||| 2 ^ n))) 14 p (nI (sl ||| 2 ^ (8 * f + F))) = h10 at *
    generalize h9e : hSetI (hSetI (hSetI (hSetI (hSetI (hSetI (hSetI (hSetI (hSetI h 3 n (nI p)) 4 n (nI f)) 5 n (nI c)) 6 n (nI y)) 7 n (nI t)) 8 n (nI (8 * f + F))) 9 (8 * f + F) (nI n)) 12 (5 * p + Q) (nI n)) 13 p (nI (sp ||| 2 ^ n)) = h9 at *
    generalize h8e : hSetI (hSetI (hSetI (hSetI (hSetI (hSetI (hSetI (hSetI h 3 n (nI p)) 4 n (nI f)) 5 n (nI c)) 6 n (nI y)) 7 n (nI t)) 8 n (nI (8 * f + F))) 9 (8 * f + F) (nI n)) 12 (5 * p + Q) (nI n) = h8 at *
    generalize h7e : hSetI (hSetI (hSetI (hSetI (hSetI (hSetI (hSetI h 3 n (nI p)) 4 n (nI f)) 5 n (nI c)) 6 n (nI y)) 7 n (nI t)) 8 n (nI (8 * f + F))) 9 (8 * f + F) (nI n) = h7 at *
    generalize h6e : hSetI (hSetI (hSetI (hSetI (hSetI (hSetI h 3 n (nI p)) 4 n (nI f)) 5 n (nI c)) 6 n (nI y)) 7 n (nI t)) 8 n (nI (8 * f + F)) = h6 at *
    generalize h5e : hSetI (hSetI (hSetI (hSetI (hSetI h 3 n (nI p)) 4 n (nI f)) 5 n (nI c)) 6 n (nI y)) 7 n (nI t) = h5 at *
    generalize h4e : hSetI (hSetI (hSetI (hSetI h 3 n (nI p)) 4 n (nI f)) 5 n (nI c)) 6 n (nI y) = h4 at *
    generalize h3e : hSetI (hSetI (hSetI h 3 n (nI p)) 4 n (nI f)) 5 n (nI c) = h3 at *
    generalize h2e : hSetI (hSetI h 3 n (nI p)) 4 n (nI f) = h2 at *
    generalize h1e : hSetI h 3 n (nI p) = h1 at *
    simp (disch := first | assumption | omega) [f_B_join, body_B_join, j_meth, j_out, j_rok, j_pad, lg_sl, s_seq_w, isN_inl, isN_inr, s_if, jb, x_c, x_iloc, x_aloc, x_lloc, x_bin, x_un, o_add, o_sub, o_mul, o_and, o_or, o_xor, o_shl, o_shr, o_ushr, o_max, o_min, o_i2b, o_i2c, o_i2l, o_l2i, x_fld, j_fget, x_idx, j_aget, x_len, j_alen, x_ofb, x_ite, xs_nil, xs_cons, x_callv, x_calls, s_callv, s_calls, j_recv, j_ret, j_retv, b_cmp, b_and, b_or, b_not, b_ofi, b_ite, b_true, s_skip, s_set, j_ty, j_lset, j_kill, s_inc, s_fput, j_fput, s_fop, s_aput, j_aput, j_nar, s_aop, s_ret, s_retv, s_go, s_pop, x_linc, x_finc, Value.category, if_icmp.holds, List.flatMap_cons, List.flatMap_nil, List.length_cons, List.length_append, List.length_nil, List.set_cons_succ, List.set_cons_zero, List.getElem?_cons_succ, List.getElem?_cons_zero, List.replicate, ite_and', ite_or', ite_int', nI_leI, nI_ltI, nI_eq, nI_add, nI_1, pk_mul, nI_clamp, n_in', nI_pos', nI_pos, n_m1e, n_01, n_10, sT_1, sR_1_0, sR_1_1, sR_1_2, sR_1_3, sR_1_4, sR_1_5, sR_1_6, sR_1_7, sR_1_8, sR_1_9, sT_2, sT_3, sT_4, sT_5, sT_6, sT_7, sT_8, sT_9, sT_10, sT_11, sT_12, sT_13, sT_14, sR_2_1, sR_2_2, sR_2_3, sR_2_4, sR_2_5, sR_2_6, sR_2_7, sR_2_8, sR_2_9, sR_2_10, sR_2_11, sR_2_12, sT_15, sT_16, sT_17, sT_18, sT_19, sT_20, sT_21, sT_22, sT_23, sR_15_1, sR_15_2, sR_15_3, sR_15_4, sR_15_5, sR_15_6, sR_15_7, sR_15_8, sT_24, sT_25, sT_26, sT_27, sT_28, sT_29, sR_24_1, sR_24_2, sR_24_3, sR_24_4, sR_24_5, sT_71, sT_72, sR_71_0, sR_71_1, sR_71_2, sR_71_3, sR_71_4, sT_73, sT_74, sT_75, sR_73_0, sR_73_1, sR_73_2, sR_73_3, sR_73_4, sR_73_5, sT_84, sT_85, sT_86, sT_87, sR_84_0, sR_84_1, sR_84_2, sR_84_3, sR_84_4, sR_84_5, sT_88, sT_89, sR_88_0, sT_90, sT_91, sR_90_0, r0, h1e, h2e, h3e, h4e, h5e, a5, e8, h6e, a6, h7e, a7, e5, h8e, a8, hsn, n_or, h9e, a9, b9, hss, h10e, a10, h11e, a11, h12e, a12, h13e]
