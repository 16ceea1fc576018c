/-! gone -/
theorem filt_s {l : List Nat} {b i : Nat} (hi : i < l.length) : (l.take (i + 1)).filter (fun c => c != b) = if l.getD i 0 = b then (l.take i).filter (fun c => c != b) else (l.take i).filter (fun c => c != b) ++ [l.getD i 0] := by
  have hg : l.getD i 0 = l[i] := by rw [List.getD_eq_getElem?_getD, List.getElem?_eq_getElem hi]; rfl
  rw [List.take_succ, List.getElem?_eq_getElem hi, List.filter_append, hg]
  by_cases e : l[i] = b
  · rw [if_pos e]
    simp [e]
  · rw [if_neg e]
    simp [e]
theorem e_O_withdraw {A : AS} {L : Nat → List Nat} {h : jHp} (x : MK A h) (l : LK A L) (ro : RO A L h) {b : Nat} (hb : b < aNb A) : ∃ h', f_O_withdraw [.ref 84, .int (nI b)] h = some (none, h') ∧ Fr W856 h h' ∧ RO A (fun p => (L p).filter (fun c => c != b)) h' := by
  have w := x.1.2.1
  have hs := x.1.1
  have hn := w.1.1
  have h20 := w.2.2.1.1
  have e1 := (x.1.2.2.1.2.1 b hb).1
  have hp := (w.2.2.1.2.1 b hb).1
  have hother : ∀ q, q ≠ aPe A b → (L q).filter (fun c => c != b) = L q := fun q hq => by
    rw [List.filter_eq_self]
    intro c hc
    have := ((l q).2.2 c hc).2
    simp only [bne_iff_ne]
    intro z
    rw [z] at this
    exact hq this.symm
  generalize hP : aPe A b = p at *
  obtain ⟨l5, -, lm⟩ := l p
  obtain ⟨r1, r2⟩ := ro p hp
  have hL := loop_wp (lb := 1) (lc := 2) (c := lc_O_withdraw_1) (b := lb_O_withdraw_1) (u := lu_O_withdraw_1) (L p).length
    (fun i st => ∃ h', st = ([.ref 84, .int (nI b), .int (nI p), .int (nI (5 * p)), .int (nI ((L p).take i |>.filter (fun c => c != b)).length), .int (nI i)], h') ∧ Fr (fun a j => a = 85 ∧ 5 * p ≤ j ∧ j < 5 * p + 5) h h' ∧ (∀ k, k < (((L p).take i).filter (fun c => c != b)).length → hI h' 85 (5 * p + k) = nI ((((L p).take i).filter (fun c => c != b)).getD k 0)) ∧ ∀ k, i ≤ k → k < (L p).length → hI h' 85 (5 * p + k) = nI ((L p).getD k 0))
    (fun r => ∃ h', r = (.inl 0, ([.ref 84, .int (nI b), .int (nI p), .int (nI (5 * p)), .int (nI ((L p).filter (fun c => c != b)).length), .int (nI (L p).length)], h')) ∧ Fr (fun a j => a = 85 ∧ 5 * p ≤ j ∧ j < 5 * p + 5) h h' ∧ ∀ k, k < ((L p).filter (fun c => c != b)).length → hI h' 85 (5 * p + k) = nI (((L p).filter (fun c => c != b)).getD k 0))
    ?_ ?_ ([.ref 84, .int (nI b), .int (nI p), .int (nI (5 * p)), .int (nI 0), .int (nI 0)], h) ⟨h, by simp, Fr_refl _ _, fun k hk => by simp at hk, fun k _ hk => r2 k hk⟩
  · obtain ⟨r, e, h2, rfl, f2, c2⟩ := hL
    have hs2 := Fr_shape hs f2
    have hfl : ((L p).filter (fun c => c != b)).length ≤ 5 := Nat.le_trans (List.length_filter_le _ _) l5
    refine ⟨hSetI h2 86 p (nI ((L p).filter (fun c => c != b)).length), ?_, Fr_trans (Fr_mono f2 fun a j q => Or.inl q.1) (Fr_set _ (Or.inr rfl)), fun q hq => ?_⟩
    · clear c2 f2 r2 ro l x hother lm
      generalize ((L p).filter (fun c => c != b)).length = kp at *
      have e5 : p * 5 = 5 * p := Nat.mul_comm _ _
      simp only [nI_0] at e
      simp (disch := first | assumption | omega) [f_O_withdraw, body_O_withdraw, j_meth, j_out, j_rok, j_pad, lg_sl, s_seq_w, isN_inl, isN_inr, s_if, jb, x_c, x_iloc, x_aloc, x_lloc, x_bin, x_un, o_add, o_sub, o_mul, o_and, o_or, o_xor, o_shl, o_shr, o_ushr, o_max, o_min, o_i2b, o_i2c, o_i2l, o_l2i, x_fld, j_fget, x_idx, j_aget, x_len, j_alen, x_ofb, x_ite, xs_nil, xs_cons, x_callv, x_calls, s_callv, s_calls, j_recv, j_ret, j_retv, b_cmp, b_and, b_or, b_not, b_ofi, b_ite, b_true, s_skip, s_set, j_ty, j_lset, j_kill, s_inc, s_fput, j_fput, s_fop, s_aput, j_aput, j_nar, s_aop, s_ret, s_retv, s_go, s_pop, x_linc, x_finc, Value.category, if_icmp.holds, List.flatMap_cons, List.flatMap_nil, List.length_cons, List.length_append, List.length_nil, List.set_cons_succ, List.set_cons_zero, List.getElem?_cons_succ, List.getElem?_cons_zero, List.replicate, ite_and', ite_or', ite_int', nI_leI, nI_ltI, nI_eq, nI_add, nI_1, pk_mul, nI_clamp, n_in', nI_pos', nI_pos, n_m1e, n_01, n_10, sT_1, sR_1_0, sR_1_1, sR_1_2, sR_1_3, sR_1_4, sR_1_5, sR_1_6, sR_1_7, sR_1_8, sR_1_9, sT_2, sT_3, sT_4, sT_5, sT_6, sT_7, sT_8, sT_9, sT_10, sT_11, sT_12, sT_13, sT_14, sR_2_1, sR_2_2, sR_2_3, sR_2_4, sR_2_5, sR_2_6, sR_2_7, sR_2_8, sR_2_9, sR_2_10, sR_2_11, sR_2_12, sT_15, sT_16, sT_17, sT_18, sT_19, sT_20, sT_21, sT_22, sT_23, sR_15_1, sR_15_2, sR_15_3, sR_15_4, sR_15_5, sR_15_6, sR_15_7, sR_15_8, sT_24, sT_25, sT_26, sT_27, sT_28, sT_29, sR_24_1, sR_24_2, sR_24_3, sR_24_4, sR_24_5, sT_71, sT_72, sR_71_0, sR_71_1, sR_71_2, sR_71_3, sR_71_4, sT_73, sT_74, sT_75, sR_73_0, sR_73_1, sR_73_2, sR_73_3, sR_73_4, sR_73_5, sT_84, sT_85, sT_86, sT_87, sR_84_0, sR_84_1, sR_84_2, sR_84_3, sR_84_4, sR_84_5, sT_88, sT_89, sR_88_0, sT_90, sT_91, sR_90_0, e1, e5, nI_0, e]
    · by_cases e3 : q = p
      · subst e3
        exact ⟨by rw [hI_setI, if_pos ⟨rfl, rfl⟩], fun k hk => by rw [hI_setI, if_neg (by omega)]; exact c2 k hk⟩
      · simp only [hother q e3]
        have l5q := (l q).1
        exact ⟨by rw [hI_setI, if_neg (fun z => e3 z.2), Fr_I f2 (by omega)]; exact (ro q hq).1, fun k hk => by rw [hI_setI, if_neg (by omega), Fr_I f2 (by omega)]; exact (ro q hq).2 k hk⟩
  · rintro i st hi ⟨h1, rfl, f1, c1, d1⟩
    left
    have hs1 := Fr_shape hs f1
    have r1' : hI h1 86 p = nI (L p).length := by rw [Fr_I f1 (by omega)]; exact r1
    have a85 := d1 i (Nat.le_refl _) hi
    have hle : (((L p).take i).filter (fun c => c != b)).length ≤ i := by
      have := List.length_filter_le (fun c => c != b) ((L p).take i)
      rw [List.length_take] at this
      omega
    have hcb := (lm _ (getD_mem' (d := 0) hi)).1
    have hfs := filt_s (b := b) hi
    rw [hfs]
    generalize hK : ((L p).take i).filter (fun c => c != b) = F at *
    generalize hcv : (L p).getD i 0 = c at *
    have hne : (nI c = nI b) = (c = b) := propext (n_eq (by omega) (by omega))
    by_cases z : c = b
    · rw [if_pos z]
      refine ⟨([.ref 84, .int (nI b), .int (nI p), .int (nI (5 * p)), .int (nI F.length), .int (nI (i + 1))], h1), ?_, h1, rfl, f1, c1, fun k h1 h2 => d1 k (by omega) h2⟩
      clear c1 d1 f1 r2 ro l x hother lm hfs
      generalize F.length = kp at *
      simp (disch := first | assumption | omega) [lstp, lc_O_withdraw_1, lb_O_withdraw_1, lu_O_withdraw_1, j_meth, j_out, j_rok, j_pad, lg_sl, s_seq_w, isN_inl, isN_inr, s_if, jb, x_c, x_iloc, x_aloc, x_lloc, x_bin, x_un, o_add, o_sub, o_mul, o_and, o_or, o_xor, o_shl, o_shr, o_ushr, o_max, o_min, o_i2b, o_i2c, o_i2l, o_l2i, x_fld, j_fget, x_idx, j_aget, x_len, j_alen, x_ofb, x_ite, xs_nil, xs_cons, x_callv, x_calls, s_callv, s_calls, j_recv, j_ret, j_retv, b_cmp, b_and, b_or, b_not, b_ofi, b_ite, b_true, s_skip, s_set, j_ty, j_lset, j_kill, s_inc, s_fput, j_fput, s_fop, s_aput, j_aput, j_nar, s_aop, s_ret, s_retv, s_go, s_pop, x_linc, x_finc, Value.category, if_icmp.holds, List.flatMap_cons, List.flatMap_nil, List.length_cons, List.length_append, List.length_nil, List.set_cons_succ, List.set_cons_zero, List.getElem?_cons_succ, List.getElem?_cons_zero, List.replicate, ite_and', ite_or', ite_int', nI_leI, nI_ltI, nI_eq, nI_add, nI_1, pk_mul, nI_clamp, n_in', nI_pos', nI_pos, n_m1e, n_01, n_10, sT_1, sR_1_0, sR_1_1, sR_1_2, sR_1_3, sR_1_4, sR_1_5, sR_1_6, sR_1_7, sR_1_8, sR_1_9, sT_2, sT_3, sT_4, sT_5, sT_6, sT_7, sT_8, sT_9, sT_10, sT_11, sT_12, sT_13, sT_14, sR_2_1, sR_2_2, sR_2_3, sR_2_4, sR_2_5, sR_2_6, sR_2_7, sR_2_8, sR_2_9, sR_2_10, sR_2_11, sR_2_12, sT_15, sT_16, sT_17, sT_18, sT_19, sT_20, sT_21, sT_22, sT_23, sR_15_1, sR_15_2, sR_15_3, sR_15_4, sR_15_5, sR_15_6, sR_15_7, sR_15_8, sT_24, sT_25, sT_26, sT_27, sT_28, sT_29, sR_24_1, sR_24_2, sR_24_3, sR_24_4, sR_24_5, sT_71, sT_72, sR_71_0, sR_71_1, sR_71_2, sR_71_3, sR_71_4, sT_73, sT_74, sT_75, sR_73_0, sR_73_1, sR_73_2, sR_73_3, sR_73_4, sR_73_5, sT_84, sT_85, sT_86, sT_87, sR_84_0, sR_84_1, sR_84_2, sR_84_3, sR_84_4, sR_84_5, sT_88, sT_89, sR_88_0, sT_90, sT_91, sR_90_0, r1', hi, a85, hne, z]
    · rw [if_neg z]
      refine ⟨([.ref 84, .int (nI b), .int (nI p), .int (nI (5 * p)), .int (nI (F ++ [c]).length), .int (nI (i + 1))], hSetI h1 85 (5 * p + F.length) (nI c)), ?_, _, rfl, Fr_trans f1 (Fr_set _ ⟨rfl, by omega, by omega⟩), fun k hk => ?_, fun k h1 h2 => ?_⟩
      · have hlen : (F ++ [c]).length = F.length + 1 := by simp
        rw [hlen]
        clear c1 d1 f1 r2 ro l x hother lm hfs
        generalize F.length = kp at *
        simp (disch := first | assumption | omega) [lstp, lc_O_withdraw_1, lb_O_withdraw_1, lu_O_withdraw_1, j_meth, j_out, j_rok, j_pad, lg_sl, s_seq_w, isN_inl, isN_inr, s_if, jb, x_c, x_iloc, x_aloc, x_lloc, x_bin, x_un, o_add, o_sub, o_mul, o_and, o_or, o_xor, o_shl, o_shr, o_ushr, o_max, o_min, o_i2b, o_i2c, o_i2l, o_l2i, x_fld, j_fget, x_idx, j_aget, x_len, j_alen, x_ofb, x_ite, xs_nil, xs_cons, x_callv, x_calls, s_callv, s_calls, j_recv, j_ret, j_retv, b_cmp, b_and, b_or, b_not, b_ofi, b_ite, b_true, s_skip, s_set, j_ty, j_lset, j_kill, s_inc, s_fput, j_fput, s_fop, s_aput, j_aput, j_nar, s_aop, s_ret, s_retv, s_go, s_pop, x_linc, x_finc, Value.category, if_icmp.holds, List.flatMap_cons, List.flatMap_nil, List.length_cons, List.length_append, List.length_nil, List.set_cons_succ, List.set_cons_zero, List.getElem?_cons_succ, List.getElem?_cons_zero, List.replicate, ite_and', ite_or', ite_int', nI_leI, nI_ltI, nI_eq, nI_add, nI_1, pk_mul, nI_clamp, n_in', nI_pos', nI_pos, n_m1e, n_01, n_10, sT_1, sR_1_0, sR_1_1, sR_1_2, sR_1_3, sR_1_4, sR_1_5, sR_1_6, sR_1_7, sR_1_8, sR_1_9, sT_2, sT_3, sT_4, sT_5, sT_6, sT_7, sT_8, sT_9, sT_10, sT_11, sT_12, sT_13, sT_14, sR_2_1, sR_2_2, sR_2_3, sR_2_4, sR_2_5, sR_2_6, sR_2_7, sR_2_8, sR_2_9, sR_2_10, sR_2_11, sR_2_12, sT_15, sT_16, sT_17, sT_18, sT_19, sT_20, sT_21, sT_22, sT_23, sR_15_1, sR_15_2, sR_15_3, sR_15_4, sR_15_5, sR_15_6, sR_15_7, sR_15_8, sT_24, sT_25, sT_26, sT_27, sT_28, sT_29, sR_24_1, sR_24_2, sR_24_3, sR_24_4, sR_24_5, sT_71, sT_72, sR_71_0, sR_71_1, sR_71_2, sR_71_3, sR_71_4, sT_73, sT_74, sT_75, sR_73_0, sR_73_1, sR_73_2, sR_73_3, sR_73_4, sR_73_5, sT_84, sT_85, sT_86, sT_87, sR_84_0, sR_84_1, sR_84_2, sR_84_3, sR_84_4, sR_84_5, sT_88, sT_89, sR_88_0, sT_90, sT_91, sR_90_0, r1', hi, a85, hne, z]
      · simp only [List.length_append, List.length_cons, List.length_nil] at hk
        rw [hI_setI]
        by_cases e : k = F.length
        · rw [if_pos ⟨rfl, by omega⟩, e]; simp
        · rw [if_neg (by omega), c1 k (by omega)]
          rw [List.getD_eq_getElem?_getD, List.getD_eq_getElem?_getD, List.getElem?_append_left (by omega)]
      · rw [hI_setI, if_neg (by omega)]
        exact d1 k (by omega) h2
  · rintro st ⟨h1, rfl, f1, c1, d1⟩
    have hs1 := Fr_shape hs f1
    have r1' : hI h1 86 p = nI (L p).length := by rw [Fr_I f1 (by omega)]; exact r1
    rw [List.take_length] at c1 ⊢
    refine ⟨(.inl 0, ([.ref 84, .int (nI b), .int (nI p), .int (nI (5 * p)), .int (nI ((L p).filter (fun c => c != b)).length), .int (nI (L p).length)], h1)), ?_, h1, rfl, f1, c1⟩
    clear c1 d1 f1 r2 ro l x hother lm
    generalize ((L p).filter (fun c => c != b)).length = kp at *
    simp (disch := first | assumption | omega) [lstp, lc_O_withdraw_1, lb_O_withdraw_1, lu_O_withdraw_1, j_meth, j_out, j_rok, j_pad, lg_sl, s_seq_w, isN_inl, isN_inr, s_if, jb, x_c, x_iloc, x_aloc, x_lloc, x_bin, x_un, o_add, o_sub, o_mul, o_and, o_or, o_xor, o_shl, o_shr, o_ushr, o_max, o_min, o_i2b, o_i2c, o_i2l, o_l2i, x_fld, j_fget, x_idx, j_aget, x_len, j_alen, x_ofb, x_ite, xs_nil, xs_cons, x_callv, x_calls, s_callv, s_calls, j_recv, j_ret, j_retv, b_cmp, b_and, b_or, b_not, b_ofi, b_ite, b_true, s_skip, s_set, j_ty, j_lset, j_kill, s_inc, s_fput, j_fput, s_fop, s_aput, j_aput, j_nar, s_aop, s_ret, s_retv, s_go, s_pop, x_linc, x_finc, Value.category, if_icmp.holds, List.flatMap_cons, List.flatMap_nil, List.length_cons, List.length_append, List.length_nil, List.set_cons_succ, List.set_cons_zero, List.getElem?_cons_succ, List.getElem?_cons_zero, List.replicate, ite_and', ite_or', ite_int', nI_leI, nI_ltI, nI_eq, nI_add, nI_1, pk_mul, nI_clamp, n_in', nI_pos', nI_pos, n_m1e, n_01, n_10, sT_1, sR_1_0, sR_1_1, sR_1_2, sR_1_3, sR_1_4, sR_1_5, sR_1_6, sR_1_7, sR_1_8, sR_1_9, sT_2, sT_3, sT_4, sT_5, sT_6, sT_7, sT_8, sT_9, sT_10, sT_11, sT_12, sT_13, sT_14, sR_2_1, sR_2_2, sR_2_3, sR_2_4, sR_2_5, sR_2_6, sR_2_7, sR_2_8, sR_2_9, sR_2_10, sR_2_11, sR_2_12, sT_15, sT_16, sT_17, sT_18, sT_19, sT_20, sT_21, sT_22, sT_23, sR_15_1, sR_15_2, sR_15_3, sR_15_4, sR_15_5, sR_15_6, sR_15_7, sR_15_8, sT_24, sT_25, sT_26, sT_27, sT_28, sT_29, sR_24_1, sR_24_2, sR_24_3, sR_24_4, sR_24_5, sT_71, sT_72, sR_71_0, sR_71_1, sR_71_2, sR_71_3, sR_71_4, sT_73, sT_74, sT_75, sR_73_0, sR_73_1, sR_73_2, sR_73_3, sR_73_4, sR_73_5, sT_84, sT_85, sT_86, sT_87, sR_84_0, sR_84_1, sR_84_2, sR_84_3, sR_84_4, sR_84_5, sT_88, sT_89, sR_88_0, sT_90, sT_91, sR_90_0, r1']
theorem LK_si {A : AS} {L : Nat → List Nat} (l : LK A L) (q : Nat) : LK A (fun p => if p = q then [] else L p) := fun p => by
  simp only
  split
  · exact ⟨by simp, List.nodup_nil, fun b hb => by simp at hb⟩
  · exact l p
theorem LK_mi {A : AS} {L : Nat → List Nat} (l : LK A L) (b : Nat) : LK A (fun p => (L p).filter (fun c => c != b)) := fun p => ⟨Nat.le_trans (List.length_filter_le _ _) (l p).1, (l p).2.1.filter _, fun c hc => (l p).2.2 c (List.mem_filter.mp hc).1⟩
noncomputable def gnc_a : jSt := (s_set 0 3 (x_ofb (b_or (b_and (b_cmp .eq (x_iloc 1) (x_c (.int 0))) (b_ofi (x_callv 7 f_P_has (xs_cons (x_fld 0 1 1 (x_aloc 0)) (xs_cons (x_iloc 2) xs_nil))))) (b_and (b_cmp .eq (x_iloc 1) (x_c (.int (nI 1)))) (b_ofi (x_callv 1 f_B_has (xs_cons (x_fld 0 1 0 (x_aloc 0)) (xs_cons (x_iloc 2) xs_nil))))))))
noncomputable def gnc_s : jSt := (s_if (b_cmp .eq (x_iloc 1) (x_c (.int 0))) (s_callv 6 f_O_silence (xs_cons (x_fld 0 1 7 (x_aloc 0)) (xs_cons (x_iloc 2) xs_nil))) (s_callv 6 f_O_withdraw (xs_cons (x_fld 0 1 7 (x_aloc 0)) (xs_cons (x_iloc 2) xs_nil))))
noncomputable def gnc_z : jSt := (s_seq (s_set 0 5 (x_c (.int (nI 0)))) (s_seq (s_seq (s_set 0 6 (x_c (.int (nI 0)))) (s_loop 1 2 (lc_S_gone_1) (lb_S_gone_1) (lu_S_gone_1))) (s_seq (s_callv 0 f_S_tellTwo (xs_cons (x_aloc 0) (xs_cons (x_callv 1 f_B_setOf (xs_cons (x_fld 0 1 0 (x_aloc 0)) (xs_cons (x_fld 6 0 8 (x_fld 0 1 7 (x_aloc 0))) xs_nil))) (xs_cons (x_iloc 5) xs_nil)))) (s_ret (x_calls f_J_bitCount (xs_cons (x_iloc 5) xs_nil))))))
theorem gnc_body : body_S_gone = s_seq gnc_a (s_seq (s_if (b_not (b_ofi (x_iloc 3))) (s_ret (x_c (.int (-1)))) s_skip) (s_seq (s_callv 6 f_O_load (xs_cons (x_fld 0 1 7 (x_aloc 0)) xs_nil)) (s_seq (s_if (b_not (b_ofi (x_callv 6 f_O_run (xs_cons (x_fld 0 1 7 (x_aloc 0)) xs_nil)))) (s_ret (x_c (.int (-3)))) s_skip) (s_seq (s_set 0 4 (x_fld 6 0 8 (x_fld 0 1 7 (x_aloc 0)))) (s_seq gnc_s (s_seq (s_if (b_not (b_ofi (x_callv 6 f_O_run (xs_cons (x_fld 0 1 7 (x_aloc 0)) xs_nil)))) (s_ret (x_c (.int (-3)))) s_skip) gnc_z)))))) := rfl
theorem gnc_a_ok {A : AS} {h : jHp} (mk : MK A h) (x y : Int32) {v4 v5 v6 : Value} : gnc_a ([.ref 1, .int x, .int y, .null, v4, v5, v6], h) = some (.inl 0, ([.ref 1, .int x, .int y, .int (if (goneA x y A).isSome then 1 else 0), v4, v5, v6], h)) := by
  have hs := mk.1.1
  have w := mk.1.2.1
  have ep := e_P_has hs w mk.1.2.2.2 y
  have eb := e_B_has hs w mk.1.2.2.1 y
  have h10 : ((1 : Int32) = 0) = False := by decide
  have n10 : (nI 1 = (0 : Int32)) = False := by decide
  have hx0 : (x = nI 0) = (x = 0) := by rw [nI_0]
  by_cases z0 : x = 0
  · have z1 : ¬ x = nI 1 := by rw [z0]; decide
    by_cases q : j_in y (aNp A) = true
    · rw [if_pos q] at ep
      have hg : goneA x y A = some (some y.toNatClampNeg, none) := by
        unfold goneA
        rw [if_pos ⟨by rw [hx0]; exact z0, q⟩]
      rw [hg]
      simp (disch := first | assumption | omega) [gnc_a, j_meth, j_out, j_rok, j_pad, lg_sl, s_seq_w, isN_inl, isN_inr, s_if, jb, x_c, x_iloc, x_aloc, x_lloc, x_bin, x_un, o_add, o_sub, o_mul, o_and, o_or, o_xor, o_shl, o_shr, o_ushr, o_max, o_min, o_i2b, o_i2c, o_i2l, o_l2i, x_fld, j_fget, x_idx, j_aget, x_len, j_alen, x_ofb, x_ite, xs_nil, xs_cons, x_callv, x_calls, s_callv, s_calls, j_recv, j_ret, j_retv, b_cmp, b_and, b_or, b_not, b_ofi, b_ite, b_true, s_skip, s_set, j_ty, j_lset, j_kill, s_inc, s_fput, j_fput, s_fop, s_aput, j_aput, j_nar, s_aop, s_ret, s_retv, s_go, s_pop, x_linc, x_finc, Value.category, if_icmp.holds, List.flatMap_cons, List.flatMap_nil, List.length_cons, List.length_append, List.length_nil, List.set_cons_succ, List.set_cons_zero, List.getElem?_cons_succ, List.getElem?_cons_zero, List.replicate, ite_and', ite_or', ite_int', nI_leI, nI_ltI, nI_eq, nI_add, nI_1, pk_mul, nI_clamp, n_in', nI_pos', nI_pos, n_m1e, n_01, n_10, sT_1, sR_1_0, sR_1_1, sR_1_2, sR_1_3, sR_1_4, sR_1_5, sR_1_6, sR_1_7, sR_1_8, sR_1_9, sT_2, sT_3, sT_4, sT_5, sT_6, sT_7, sT_8, sT_9, sT_10, sT_11, sT_12, sT_13, sT_14, sR_2_1, sR_2_2, sR_2_3, sR_2_4, sR_2_5, sR_2_6, sR_2_7, sR_2_8, sR_2_9, sR_2_10, sR_2_11, sR_2_12, sT_15, sT_16, sT_17, sT_18, sT_19, sT_20, sT_21, sT_22, sT_23, sR_15_1, sR_15_2, sR_15_3, sR_15_4, sR_15_5, sR_15_6, sR_15_7, sR_15_8, sT_24, sT_25, sT_26, sT_27, sT_28, sT_29, sR_24_1, sR_24_2, sR_24_3, sR_24_4, sR_24_5, sT_71, sT_72, sR_71_0, sR_71_1, sR_71_2, sR_71_3, sR_71_4, sT_73, sT_74, sT_75, sR_73_0, sR_73_1, sR_73_2, sR_73_3, sR_73_4, sR_73_5, sT_84, sT_85, sT_86, sT_87, sR_84_0, sR_84_1, sR_84_2, sR_84_3, sR_84_4, sR_84_5, sT_88, sT_89, sR_88_0, sT_90, sT_91, sR_90_0, z0, ep, h10]
    · rw [if_neg q] at ep
      have hg : goneA x y A = none := by
        unfold goneA
        rw [if_neg (fun z => q z.2), if_neg (fun z => z1 z.1)]
      rw [hg]
      have z1' : ((0 : Int32) = nI 1) = False := by decide
      simp (disch := first | assumption | omega) [gnc_a, j_meth, j_out, j_rok, j_pad, lg_sl, s_seq_w, isN_inl, isN_inr, s_if, jb, x_c, x_iloc, x_aloc, x_lloc, x_bin, x_un, o_add, o_sub, o_mul, o_and, o_or, o_xor, o_shl, o_shr, o_ushr, o_max, o_min, o_i2b, o_i2c, o_i2l, o_l2i, x_fld, j_fget, x_idx, j_aget, x_len, j_alen, x_ofb, x_ite, xs_nil, xs_cons, x_callv, x_calls, s_callv, s_calls, j_recv, j_ret, j_retv, b_cmp, b_and, b_or, b_not, b_ofi, b_ite, b_true, s_skip, s_set, j_ty, j_lset, j_kill, s_inc, s_fput, j_fput, s_fop, s_aput, j_aput, j_nar, s_aop, s_ret, s_retv, s_go, s_pop, x_linc, x_finc, Value.category, if_icmp.holds, List.flatMap_cons, List.flatMap_nil, List.length_cons, List.length_append, List.length_nil, List.set_cons_succ, List.set_cons_zero, List.getElem?_cons_succ, List.getElem?_cons_zero, List.replicate, ite_and', ite_or', ite_int', nI_leI, nI_ltI, nI_eq, nI_add, nI_1, pk_mul, nI_clamp, n_in', nI_pos', nI_pos, n_m1e, n_01, n_10, sT_1, sR_1_0, sR_1_1, sR_1_2, sR_1_3, sR_1_4, sR_1_5, sR_1_6, sR_1_7, sR_1_8, sR_1_9, sT_2, sT_3, sT_4, sT_5, sT_6, sT_7, sT_8, sT_9, sT_10, sT_11, sT_12, sT_13, sT_14, sR_2_1, sR_2_2, sR_2_3, sR_2_4, sR_2_5, sR_2_6, sR_2_7, sR_2_8, sR_2_9, sR_2_10, sR_2_11, sR_2_12, sT_15, sT_16, sT_17, sT_18, sT_19, sT_20, sT_21, sT_22, sT_23, sR_15_1, sR_15_2, sR_15_3, sR_15_4, sR_15_5, sR_15_6, sR_15_7, sR_15_8, sT_24, sT_25, sT_26, sT_27, sT_28, sT_29, sR_24_1, sR_24_2, sR_24_3, sR_24_4, sR_24_5, sT_71, sT_72, sR_71_0, sR_71_1, sR_71_2, sR_71_3, sR_71_4, sT_73, sT_74, sT_75, sR_73_0, sR_73_1, sR_73_2, sR_73_3, sR_73_4, sR_73_5, sT_84, sT_85, sT_86, sT_87, sR_84_0, sR_84_1, sR_84_2, sR_84_3, sR_84_4, sR_84_5, sT_88, sT_89, sR_88_0, sT_90, sT_91, sR_90_0, z0, ep, z1']
  · by_cases z1 : x = nI 1
    · by_cases q : j_in y (aNb A) = true
      · rw [if_pos q] at eb
        have hg : goneA x y A = some (none, some y.toNatClampNeg) := by
          unfold goneA
          rw [if_neg (fun z => z0 (by rw [← hx0]; exact z.1)), if_pos ⟨z1, q⟩]
        rw [hg]
        simp (disch := first | assumption | omega) [gnc_a, j_meth, j_out, j_rok, j_pad, lg_sl, s_seq_w, isN_inl, isN_inr, s_if, jb, x_c, x_iloc, x_aloc, x_lloc, x_bin, x_un, o_add, o_sub, o_mul, o_and, o_or, o_xor, o_shl, o_shr, o_ushr, o_max, o_min, o_i2b, o_i2c, o_i2l, o_l2i, x_fld, j_fget, x_idx, j_aget, x_len, j_alen, x_ofb, x_ite, xs_nil, xs_cons, x_callv, x_calls, s_callv, s_calls, j_recv, j_ret, j_retv, b_cmp, b_and, b_or, b_not, b_ofi, b_ite, b_true, s_skip, s_set, j_ty, j_lset, j_kill, s_inc, s_fput, j_fput, s_fop, s_aput, j_aput, j_nar, s_aop, s_ret, s_retv, s_go, s_pop, x_linc, x_finc, Value.category, if_icmp.holds, List.flatMap_cons, List.flatMap_nil, List.length_cons, List.length_append, List.length_nil, List.set_cons_succ, List.set_cons_zero, List.getElem?_cons_succ, List.getElem?_cons_zero, List.replicate, ite_and', ite_or', ite_int', nI_leI, nI_ltI, nI_eq, nI_add, nI_1, pk_mul, nI_clamp, n_in', nI_pos', nI_pos, n_m1e, n_01, n_10, sT_1, sR_1_0, sR_1_1, sR_1_2, sR_1_3, sR_1_4, sR_1_5, sR_1_6, sR_1_7, sR_1_8, sR_1_9, sT_2, sT_3, sT_4, sT_5, sT_6, sT_7, sT_8, sT_9, sT_10, sT_11, sT_12, sT_13, sT_14, sR_2_1, sR_2_2, sR_2_3, sR_2_4, sR_2_5, sR_2_6, sR_2_7, sR_2_8, sR_2_9, sR_2_10, sR_2_11, sR_2_12, sT_15, sT_16, sT_17, sT_18, sT_19, sT_20, sT_21, sT_22, sT_23, sR_15_1, sR_15_2, sR_15_3, sR_15_4, sR_15_5, sR_15_6, sR_15_7, sR_15_8, sT_24, sT_25, sT_26, sT_27, sT_28, sT_29, sR_24_1, sR_24_2, sR_24_3, sR_24_4, sR_24_5, sT_71, sT_72, sR_71_0, sR_71_1, sR_71_2, sR_71_3, sR_71_4, sT_73, sT_74, sT_75, sR_73_0, sR_73_1, sR_73_2, sR_73_3, sR_73_4, sR_73_5, sT_84, sT_85, sT_86, sT_87, sR_84_0, sR_84_1, sR_84_2, sR_84_3, sR_84_4, sR_84_5, sT_88, sT_89, sR_88_0, sT_90, sT_91, sR_90_0, z1, n10, eb, h10]
      · rw [if_neg q] at eb
        have hg : goneA x y A = none := by
          unfold goneA
          rw [if_neg (fun z => z0 (by rw [← hx0]; exact z.1)), if_neg (fun z => q z.2)]
        rw [hg]
        simp (disch := first | assumption | omega) [gnc_a, j_meth, j_out, j_rok, j_pad, lg_sl, s_seq_w, isN_inl, isN_inr, s_if, jb, x_c, x_iloc, x_aloc, x_lloc, x_bin, x_un, o_add, o_sub, o_mul, o_and, o_or, o_xor, o_shl, o_shr, o_ushr, o_max, o_min, o_i2b, o_i2c, o_i2l, o_l2i, x_fld, j_fget, x_idx, j_aget, x_len, j_alen, x_ofb, x_ite, xs_nil, xs_cons, x_callv, x_calls, s_callv, s_calls, j_recv, j_ret, j_retv, b_cmp, b_and, b_or, b_not, b_ofi, b_ite, b_true, s_skip, s_set, j_ty, j_lset, j_kill, s_inc, s_fput, j_fput, s_fop, s_aput, j_aput, j_nar, s_aop, s_ret, s_retv, s_go, s_pop, x_linc, x_finc, Value.category, if_icmp.holds, List.flatMap_cons, List.flatMap_nil, List.length_cons, List.length_append, List.length_nil, List.set_cons_succ, List.set_cons_zero, List.getElem?_cons_succ, List.getElem?_cons_zero, List.replicate, ite_and', ite_or', ite_int', nI_leI, nI_ltI, nI_eq, nI_add, nI_1, pk_mul, nI_clamp, n_in', nI_pos', nI_pos, n_m1e, n_01, n_10, sT_1, sR_1_0, sR_1_1, sR_1_2, sR_1_3, sR_1_4, sR_1_5, sR_1_6, sR_1_7, sR_1_8, sR_1_9, sT_2, sT_3, sT_4, sT_5, sT_6, sT_7, sT_8, sT_9, sT_10, sT_11, sT_12, sT_13, sT_14, sR_2_1, sR_2_2, sR_2_3, sR_2_4, sR_2_5, sR_2_6, sR_2_7, sR_2_8, sR_2_9, sR_2_10, sR_2_11, sR_2_12, sT_15, sT_16, sT_17, sT_18, sT_19, sT_20, sT_21, sT_22, sT_23, sR_15_1, sR_15_2, sR_15_3, sR_15_4, sR_15_5, sR_15_6, sR_15_7, sR_15_8, sT_24, sT_25, sT_26, sT_27, sT_28, sT_29, sR_24_1, sR_24_2, sR_24_3, sR_24_4, sR_24_5, sT_71, sT_72, sR_71_0, sR_71_1, sR_71_2, sR_71_3, sR_71_4, sT_73, sT_74, sT_75, sR_73_0, sR_73_1, sR_73_2, sR_73_3, sR_73_4, sR_73_5, sT_84, sT_85, sT_86, sT_87, sR_84_0, sR_84_1, sR_84_2, sR_84_3, sR_84_4, sR_84_5, sT_88, sT_89, sR_88_0, sT_90, sT_91, sR_90_0, z1, n10, eb]
    · have hg : goneA x y A = none := by
        unfold goneA
        rw [if_neg (fun z => z0 (by rw [← hx0]; exact z.1)), if_neg (fun z => z1 z.1)]
      rw [hg]
      simp (disch := first | assumption | omega) [gnc_a, j_meth, j_out, j_rok, j_pad, lg_sl, s_seq_w, isN_inl, isN_inr, s_if, jb, x_c, x_iloc, x_aloc, x_lloc, x_bin, x_un, o_add, o_sub, o_mul, o_and, o_or, o_xor, o_shl, o_shr, o_ushr, o_max, o_min, o_i2b, o_i2c, o_i2l, o_l2i, x_fld, j_fget, x_idx, j_aget, x_len, j_alen, x_ofb, x_ite, xs_nil, xs_cons, x_callv, x_calls, s_callv, s_calls, j_recv, j_ret, j_retv, b_cmp, b_and, b_or, b_not, b_ofi, b_ite, b_true, s_skip, s_set, j_ty, j_lset, j_kill, s_inc, s_fput, j_fput, s_fop, s_aput, j_aput, j_nar, s_aop, s_ret, s_retv, s_go, s_pop, x_linc, x_finc, Value.category, if_icmp.holds, List.flatMap_cons, List.flatMap_nil, List.length_cons, List.length_append, List.length_nil, List.set_cons_succ, List.set_cons_zero, List.getElem?_cons_succ, List.getElem?_cons_zero, List.replicate, ite_and', ite_or', ite_int', nI_leI, nI_ltI, nI_eq, nI_add, nI_1, pk_mul, nI_clamp, n_in', nI_pos', nI_pos, n_m1e, n_01, n_10, sT_1, sR_1_0, sR_1_1, sR_1_2, sR_1_3, sR_1_4, sR_1_5, sR_1_6, sR_1_7, sR_1_8, sR_1_9, sT_2, sT_3, sT_4, sT_5, sT_6, sT_7, sT_8, sT_9, sT_10, sT_11, sT_12, sT_13, sT_14, sR_2_1, sR_2_2, sR_2_3, sR_2_4, sR_2_5, sR_2_6, sR_2_7, sR_2_8, sR_2_9, sR_2_10, sR_2_11, sR_2_12, sT_15, sT_16, sT_17, sT_18, sT_19, sT_20, sT_21, sT_22, sT_23, sR_15_1, sR_15_2, sR_15_3, sR_15_4, sR_15_5, sR_15_6, sR_15_7, sR_15_8, sT_24, sT_25, sT_26, sT_27, sT_28, sT_29, sR_24_1, sR_24_2, sR_24_3, sR_24_4, sR_24_5, sT_71, sT_72, sR_71_0, sR_71_1, sR_71_2, sR_71_3, sR_71_4, sT_73, sT_74, sT_75, sR_73_0, sR_73_1, sR_73_2, sR_73_3, sR_73_4, sR_73_5, sT_84, sT_85, sT_86, sT_87, sR_84_0, sR_84_1, sR_84_2, sR_84_3, sR_84_4, sR_84_5, sT_88, sT_89, sR_88_0, sT_90, sT_91, sR_90_0, z0, z1]
