/-! reading a LINE -/
theorem WK_tc {a b j : Nat} (h : WK a b j) : Wtc a b j := by
  unfold WK at h
  rcases h with q | q
  · exact Or.inl q
  · exact Or.inr (by omega)
theorem rk_loop {tx : List Nat} {a : Nat} : ∀ n i (ks : List (Nat × Bool)) (h : jHp) (v2 v3 : Value), ks.length + n = 5 → i + 2 * n < 2 ^ 27 → RT tx i a h → RKc ks a h → ∃ r h' L, s_loop 1 2 lc_T_readKeys_1 lb_T_readKeys_1 lu_T_readKeys_1 ([.ref 88, .int (nI ks.length), v2, v3], h) = some r ∧ Fr (WK a) h h' ∧ RT tx (kG tx n i ks).2 a h' ∧ (∀ q, (kG tx n i ks).1 = some q → RKc q a h') ∧ ((r = (.inl 0, (L, h')) ∧ (kG tx n i ks).1.isSome = true) ∨ r = (.inr (some (.int (if (kG tx n i ks).1.isSome then 1 else 0))), (L, h'))) := by
  intro n
  induction n with
  | zero =>
    intro i ks h v2 v3 hl hi r c
    have hs := r.1
    have h5 : ks.length = 5 := by omega
    refine ⟨(.inl 0, ([.ref 88, .int (nI ks.length), v2, v3], h)), h, _, s_loop_inr ?_, Fr_refl _ _, r, fun q hq => ?_, Or.inl ⟨rfl, rfl⟩⟩
    · rw [h5]
      simp (disch := first | assumption | omega) [lstp, lc_T_readKeys_1, lb_T_readKeys_1, lu_T_readKeys_1, j_meth, j_out, j_rok, j_pad, lg_sl, s_seq_w, isN_inl, isN_inr, s_if, jb, x_c, x_iloc, x_aloc, x_lloc, x_bin, x_un, o_add, o_sub, o_mul, o_and, o_or, o_xor, o_shl, o_shr, o_ushr, o_max, o_min, o_i2b, o_i2c, o_i2l, o_l2i, x_fld, j_fget, x_idx, j_aget, x_len, j_alen, x_ofb, x_ite, xs_nil, xs_cons, x_callv, x_calls, s_callv, s_calls, j_recv, j_ret, j_retv, b_cmp, b_and, b_or, b_not, b_ofi, b_ite, b_true, s_skip, s_set, j_ty, j_lset, j_kill, s_inc, s_fput, j_fput, s_fop, s_aput, j_aput, j_nar, s_aop, s_ret, s_retv, s_go, s_pop, x_linc, x_finc, Value.category, if_icmp.holds, List.flatMap_cons, List.flatMap_nil, List.length_cons, List.length_append, List.length_nil, List.set_cons_succ, List.set_cons_zero, List.getElem?_cons_succ, List.getElem?_cons_zero, List.replicate, ite_and', ite_or', ite_int', nI_leI, nI_ltI, nI_eq, nI_add, nI_1, pk_mul, nI_clamp, n_in', nI_pos', nI_pos, n_m1e, n_01, n_10, sT_1, sR_1_0, sR_1_1, sR_1_2, sR_1_3, sR_1_4, sR_1_5, sR_1_6, sR_1_7, sR_1_8, sR_1_9, sT_2, sT_3, sT_4, sT_5, sT_6, sT_7, sT_8, sT_9, sT_10, sT_11, sT_12, sT_13, sT_14, sR_2_1, sR_2_2, sR_2_3, sR_2_4, sR_2_5, sR_2_6, sR_2_7, sR_2_8, sR_2_9, sR_2_10, sR_2_11, sR_2_12, sT_15, sT_16, sT_17, sT_18, sT_19, sT_20, sT_21, sT_22, sT_23, sR_15_1, sR_15_2, sR_15_3, sR_15_4, sR_15_5, sR_15_6, sR_15_7, sR_15_8, sT_24, sT_25, sT_26, sT_27, sT_28, sT_29, sR_24_1, sR_24_2, sR_24_3, sR_24_4, sR_24_5, sT_71, sT_72, sR_71_0, sR_71_1, sR_71_2, sR_71_3, sR_71_4, sT_73, sT_74, sT_75, sR_73_0, sR_73_1, sR_73_2, sR_73_3, sR_73_4, sR_73_5, sT_84, sT_85, sT_86, sT_87, sR_84_0, sR_84_1, sR_84_2, sR_84_3, sR_84_4, sR_84_5, sT_88, sT_89, sR_88_0, sT_90, sT_91, sR_90_0]
    · have : ks = q := by simpa [kG] using hq
      rw [← this]; exact c
  | succ n ih =>
    intro i ks h v2 v3 hl hi r c
    obtain ⟨h1, f1, o⟩ := rk_step (v2 := v2) (v3 := v3) r (by omega) (by omega) c
    rcases o with ⟨k, w2, w3, p1, p2, e1, r1, c1⟩ | ⟨L, j, p1, p2, e1, r1⟩ | ⟨L, p1, e1, r1, he⟩
    · have hlen : (ks ++ [k]).length = ks.length + 1 := by simp
      obtain ⟨q, h2, L, e2, f2, r2, c2, o2⟩ := ih (i + 2) (ks ++ [k]) h1 w2 w3 (by omega) (by omega) r1 c1
      rw [hlen] at e2
      have hK : kG tx (n + 1) i ks = kG tx n (i + 2) (ks ++ [k]) := by simp only [kG]; rw [if_pos p1, p2]
      rw [hK]
      exact ⟨q, h2, L, s_loop_inl e1 e2, Fr_trans f1 f2, r2, c2, o2⟩
    · have hK : kG tx (n + 1) i ks = (none, j) := by simp only [kG]; rw [if_pos p1, p2]
      rw [hK]
      exact ⟨_, h1, L, s_loop_inr e1, f1, r1, fun q hq => (by cases hq), Or.inr rfl⟩
    · have hp : ¬ isPM (tg tx i) = true := by rw [p1]; decide
      subst he
      by_cases z : ks.length = 0
      · have hK : kG tx (n + 1) i ks = (none, i) := by simp only [kG]; rw [if_neg hp, if_pos z]
        rw [hK]
        rw [if_pos z] at e1
        exact ⟨_, _, L, s_loop_inr e1, f1, r1, fun q hq => (by cases hq), Or.inr rfl⟩
      · have hK : kG tx (n + 1) i ks = (some ks, i) := by simp only [kG]; rw [if_neg hp, if_neg z]
        rw [hK]
        rw [if_neg z] at e1
        exact ⟨_, _, L, s_loop_inr e1, f1, r1, fun q hq => (by cases hq; exact c), Or.inr rfl⟩
theorem e_T_readKeys {tx : List Nat} {i a : Nat} {C : CH} {t : Bool} {h : jHp} (r : RT tx i a h) (hi : i < 2 ^ 26) (c : CHc C t a h) : ∃ h', f_T_readKeys [.ref 88] h = some (some (.int (if (pKyA tx i).1.isSome then 1 else 0)), h') ∧ RT tx (pKyA tx i).2 a h' ∧ Fr (Wtc a) h h' ∧ ∀ ks, (pKyA tx i).1 = some ks → CHc (C.1, C.2.1, ks, C.2.2.2) t a h' := by
  have hs := r.1
  have ha := r.2.2.2.2.2.2
  have hal := CA_lt ha
  have hR3 := r.2.2.2.2.2.1
  have u0 := (CA_of hs ha).1
  have ha0 : a ≠ 0 := by omega
  have f0 : Fr (WK a) h (hSetI h a 3 (nI 0)) := Fr_set _ (Or.inr (Or.inl ⟨rfl, rfl⟩))
  have r0 : RT tx i a (hSetI h a 3 (nI 0)) := RT_fr (W := fun b _ => b = a) r (Fr_set _ rfl) (fun b j z => by omega)
  have c0 : RKc [] a (hSetI h a 3 (nI 0)) := ⟨by rw [hI_setI, if_pos ⟨rfl, rfl⟩]; rfl, fun k hk => by simp at hk⟩
  obtain ⟨q, h2, L, e2, f2, r2, c2, o2⟩ := rk_loop 5 i [] (hSetI h a 3 (nI 0)) .null .null (by simp) (by omega) r0 c0
  rw [kG_5] at r2 c2 o2
  have ff := Fr_trans f0 f2
  have hs2 := r2.1
  refine ⟨h2, ?_, r2, Fr_mono ff fun b j q => WK_tc q, fun ks hks => ?_⟩
  · have hl0 : ([] : List (Nat × Bool)).length = 0 := rfl
    rw [hl0] at e2
    have hs1 : Shape (hSetI h a 3 (nI 0)) := hs
    clear f0 r0 c0 f2 ff c2
    generalize hh1 : hSetI h a 3 (nI 0) = h1 at *
    rcases o2 with ⟨rfl, hz⟩ | rfl
    · rw [hz]
      simp only [if_true]
      have hh1' : hSetI h a 3 0 = h1 := by rw [← hh1, nI_0]
      simp only [nI_0] at e2
      simp (disch := first | assumption | omega) [f_T_readKeys, body_T_readKeys, j_meth, j_out, j_rok, j_pad, lg_sl, s_seq_w, isN_inl, isN_inr, s_if, jb, x_c, x_iloc, x_aloc, x_lloc, x_bin, x_un, o_add, o_sub, o_mul, o_and, o_or, o_xor, o_shl, o_shr, o_ushr, o_max, o_min, o_i2b, o_i2c, o_i2l, o_l2i, x_fld, j_fget, x_idx, j_aget, x_len, j_alen, x_ofb, x_ite, xs_nil, xs_cons, x_callv, x_calls, s_callv, s_calls, j_recv, j_ret, j_retv, b_cmp, b_and, b_or, b_not, b_ofi, b_ite, b_true, s_skip, s_set, j_ty, j_lset, j_kill, s_inc, s_fput, j_fput, s_fop, s_aput, j_aput, j_nar, s_aop, s_ret, s_retv, s_go, s_pop, x_linc, x_finc, Value.category, if_icmp.holds, List.flatMap_cons, List.flatMap_nil, List.length_cons, List.length_append, List.length_nil, List.set_cons_succ, List.set_cons_zero, List.getElem?_cons_succ, List.getElem?_cons_zero, List.replicate, ite_and', ite_or', ite_int', nI_leI, nI_ltI, nI_eq, nI_add, nI_1, pk_mul, nI_clamp, n_in', nI_pos', nI_pos, n_m1e, n_01, n_10, sT_1, sR_1_0, sR_1_1, sR_1_2, sR_1_3, sR_1_4, sR_1_5, sR_1_6, sR_1_7, sR_1_8, sR_1_9, sT_2, sT_3, sT_4, sT_5, sT_6, sT_7, sT_8, sT_9, sT_10, sT_11, sT_12, sT_13, sT_14, sR_2_1, sR_2_2, sR_2_3, sR_2_4, sR_2_5, sR_2_6, sR_2_7, sR_2_8, sR_2_9, sR_2_10, sR_2_11, sR_2_12, sT_15, sT_16, sT_17, sT_18, sT_19, sT_20, sT_21, sT_22, sT_23, sR_15_1, sR_15_2, sR_15_3, sR_15_4, sR_15_5, sR_15_6, sR_15_7, sR_15_8, sT_24, sT_25, sT_26, sT_27, sT_28, sT_29, sR_24_1, sR_24_2, sR_24_3, sR_24_4, sR_24_5, sT_71, sT_72, sR_71_0, sR_71_1, sR_71_2, sR_71_3, sR_71_4, sT_73, sT_74, sT_75, sR_73_0, sR_73_1, sR_73_2, sR_73_3, sR_73_4, sR_73_5, sT_84, sT_85, sT_86, sT_87, sR_84_0, sR_84_1, sR_84_2, sR_84_3, sR_84_4, sR_84_5, sT_88, sT_89, sR_88_0, sT_90, sT_91, sR_90_0, hR3, ha0, u0, nI_0, hh1', e2, n_e1]
    · have hh1' : hSetI h a 3 0 = h1 := by rw [← hh1, nI_0]
      simp only [nI_0] at e2
      generalize (pKyA tx i).1.isSome = zz at *
      cases zz <;> simp (disch := first | assumption | omega) [f_T_readKeys, body_T_readKeys, j_meth, j_out, j_rok, j_pad, lg_sl, s_seq_w, isN_inl, isN_inr, s_if, jb, x_c, x_iloc, x_aloc, x_lloc, x_bin, x_un, o_add, o_sub, o_mul, o_and, o_or, o_xor, o_shl, o_shr, o_ushr, o_max, o_min, o_i2b, o_i2c, o_i2l, o_l2i, x_fld, j_fget, x_idx, j_aget, x_len, j_alen, x_ofb, x_ite, xs_nil, xs_cons, x_callv, x_calls, s_callv, s_calls, j_recv, j_ret, j_retv, b_cmp, b_and, b_or, b_not, b_ofi, b_ite, b_true, s_skip, s_set, j_ty, j_lset, j_kill, s_inc, s_fput, j_fput, s_fop, s_aput, j_aput, j_nar, s_aop, s_ret, s_retv, s_go, s_pop, x_linc, x_finc, Value.category, if_icmp.holds, List.flatMap_cons, List.flatMap_nil, List.length_cons, List.length_append, List.length_nil, List.set_cons_succ, List.set_cons_zero, List.getElem?_cons_succ, List.getElem?_cons_zero, List.replicate, ite_and', ite_or', ite_int', nI_leI, nI_ltI, nI_eq, nI_add, nI_1, pk_mul, nI_clamp, n_in', nI_pos', nI_pos, n_m1e, n_01, n_10, sT_1, sR_1_0, sR_1_1, sR_1_2, sR_1_3, sR_1_4, sR_1_5, sR_1_6, sR_1_7, sR_1_8, sR_1_9, sT_2, sT_3, sT_4, sT_5, sT_6, sT_7, sT_8, sT_9, sT_10, sT_11, sT_12, sT_13, sT_14, sR_2_1, sR_2_2, sR_2_3, sR_2_4, sR_2_5, sR_2_6, sR_2_7, sR_2_8, sR_2_9, sR_2_10, sR_2_11, sR_2_12, sT_15, sT_16, sT_17, sT_18, sT_19, sT_20, sT_21, sT_22, sT_23, sR_15_1, sR_15_2, sR_15_3, sR_15_4, sR_15_5, sR_15_6, sR_15_7, sR_15_8, sT_24, sT_25, sT_26, sT_27, sT_28, sT_29, sR_24_1, sR_24_2, sR_24_3, sR_24_4, sR_24_5, sT_71, sT_72, sR_71_0, sR_71_1, sR_71_2, sR_71_3, sR_71_4, sT_73, sT_74, sT_75, sR_73_0, sR_73_1, sR_73_2, sR_73_3, sR_73_4, sR_73_5, sT_84, sT_85, sT_86, sT_87, sR_84_0, sR_84_1, sR_84_2, sR_84_3, sR_84_4, sR_84_5, sT_88, sT_89, sR_88_0, sT_90, sT_91, sR_90_0, hR3, ha0, u0, nI_0, hh1', e2]
  · obtain ⟨k0, k1⟩ := c2 ks hks
    obtain ⟨c0', c1', c2', c3', c4', c5', c6'⟩ := c
    have g : ∀ b j, a ≤ b → b ≤ a + 5 → ¬ (b = a ∧ j = 3) → b ≠ a + 1 → b ≠ a + 2 → hI h2 b j = hI h b j := fun b j h1 h2 h3 h4 h5 => Fr_I ff fun q => by
      unfold WK W882 at q
      omega
    refine ⟨by rw [g _ _ (by omega) (by omega) (by omega) (by omega) (by omega)]; exact c0', by rw [g _ _ (by omega) (by omega) (by omega) (by omega) (by omega)]; exact c1', by rw [g _ _ (by omega) (by omega) (by omega) (by omega) (by omega)]; exact c2', k0, k1, fun k hk => ?_, fun p hp => ?_⟩
    · rw [g _ _ (by omega) (by omega) (by omega) (by omega) (by omega)]; exact c5' k hk
    · rw [g _ _ (by omega) (by omega) (by omega) (by omega) (by omega), g _ _ (by omega) (by omega) (by omega) (by omega) (by omega)]; exact c6' p hp
/-- one LINE -/
theorem e_T_readLine {tx : List Nat} {i a n : Nat} {C : CH} {t : Bool} {h : jHp} (r : RT tx i a h) (hi : i < 2 ^ 25) (c : CHc C t a h) (hC : CHk C n) : ∃ h', f_T_readLine [.ref 88] h = some (some (.int (if (pLn tx i C).1.isSome then 1 else 0)), h') ∧ RT tx (pLn tx i C).2 a h' ∧ Fr (Wtc a) h h' ∧ ∀ D, (pLn tx i C).1 = some D → CHc D t a h' := by
  have hs := r.1
  have ha := r.2.2.2.2.2.2
  have hal := CA_lt ha
  have ha0 : a ≠ 0 := by omega
  have hb := r.2.1.2
  have en := e_T_next r (by omega)
  have c2 := r.2.2.2.1
  have hR3 := r.2.2.2.2.2.1
  have r1 := RT_adv (j := i + 1) r
  have f1 : Fr W882 h (hSetI h 88 2 (nI (i + 1))) := Fr_set _ ⟨rfl, rfl⟩
  have hs1 := r1.1
  have c1 := CHc_882 ha c f1
  have R1 : hR (hSetI h 88 2 (nI (i + 1))) 88 3 = a := hR3
  obtain ⟨v0, -, -, -, v7, v8, -, -, -, w7, w8⟩ := CA_of hs1 ha
  generalize hh1 : hSetI h 88 2 (nI (i + 1)) = h1 at *
  have f1' : Fr (Wtc a) h h1 := Fr_mono f1 fun b j q => W882_tc q
  have t99 : (nI 99).toInt = 99 := by decide
  have t107 : (nI 107).toInt = 107 := by decide
  have t113 : (nI 113).toInt = 113 := by decide
  have t114 : (nI 114).toInt = 114 := by decide
  have t119 : (nI 119).toInt = 119 := by decide
  have t120 : (nI 120).toInt = 120 := by decide
  have nxs : ∀ z, tg tx i = some z → nx tx i = nI z := fun z hz => by unfold nx; rw [hz]
  by_cases z1 : tg tx i = some 113
  · rw [nxs _ z1] at en
    obtain ⟨h2, e2, r2, f2, k2⟩ := e_T_readNumber r1 (by omega) c1 true
    have hK : pLn tx i C = match pNum tx (i + 1) with
      | none => (none, i + 1)
      | some q => (some (q.1, C.2), q.2) := by unfold pLn; rw [if_pos z1]; cases pNum tx (i + 1) <;> rfl
    cases hp : pNum tx (i + 1) with
    | none =>
      rw [hp] at hK e2 r2 k2
      rw [hK]
      refine ⟨h2, ?_, r2, Fr_trans f1' f2, fun D hD => by cases hD⟩
      have hs2 := r2.1
      simp only [if_true] at e2
      simp (disch := first | assumption | omega) [f_T_readLine, body_T_readLine, j_meth, j_out, j_rok, j_pad, lg_sl, s_seq_w, isN_inl, isN_inr, s_if, jb, x_c, x_iloc, x_aloc, x_lloc, x_bin, x_un, o_add, o_sub, o_mul, o_and, o_or, o_xor, o_shl, o_shr, o_ushr, o_max, o_min, o_i2b, o_i2c, o_i2l, o_l2i, x_fld, j_fget, x_idx, j_aget, x_len, j_alen, x_ofb, x_ite, xs_nil, xs_cons, x_callv, x_calls, s_callv, s_calls, j_recv, j_ret, j_retv, b_cmp, b_and, b_or, b_not, b_ofi, b_ite, b_true, s_skip, s_set, j_ty, j_lset, j_kill, s_inc, s_fput, j_fput, s_fop, s_aput, j_aput, j_nar, s_aop, s_ret, s_retv, s_go, s_pop, x_linc, x_finc, Value.category, if_icmp.holds, List.flatMap_cons, List.flatMap_nil, List.length_cons, List.length_append, List.length_nil, List.set_cons_succ, List.set_cons_zero, List.getElem?_cons_succ, List.getElem?_cons_zero, List.replicate, ite_and', ite_or', ite_int', nI_leI, nI_ltI, nI_eq, nI_add, nI_1, pk_mul, nI_clamp, n_in', nI_pos', nI_pos, n_m1e, n_01, n_10, sT_1, sR_1_0, sR_1_1, sR_1_2, sR_1_3, sR_1_4, sR_1_5, sR_1_6, sR_1_7, sR_1_8, sR_1_9, sT_2, sT_3, sT_4, sT_5, sT_6, sT_7, sT_8, sT_9, sT_10, sT_11, sT_12, sT_13, sT_14, sR_2_1, sR_2_2, sR_2_3, sR_2_4, sR_2_5, sR_2_6, sR_2_7, sR_2_8, sR_2_9, sR_2_10, sR_2_11, sR_2_12, sT_15, sT_16, sT_17, sT_18, sT_19, sT_20, sT_21, sT_22, sT_23, sR_15_1, sR_15_2, sR_15_3, sR_15_4, sR_15_5, sR_15_6, sR_15_7, sR_15_8, sT_24, sT_25, sT_26, sT_27, sT_28, sT_29, sR_24_1, sR_24_2, sR_24_3, sR_24_4, sR_24_5, sT_71, sT_72, sR_71_0, sR_71_1, sR_71_2, sR_71_3, sR_71_4, sT_73, sT_74, sT_75, sR_73_0, sR_73_1, sR_73_2, sR_73_3, sR_73_4, sR_73_5, sT_84, sT_85, sT_86, sT_87, sR_84_0, sR_84_1, sR_84_2, sR_84_3, sR_84_4, sR_84_5, sT_88, sT_89, sR_88_0, sT_90, sT_91, sR_90_0, s_sw, s_lsw, en, t113, c2, hh1, e2]
    | some q =>
      rw [hp] at hK e2 r2 k2
      rw [hK]
      refine ⟨h2, ?_, r2, Fr_trans f1' f2, fun D hD => by cases hD; exact k2 q rfl⟩
      have hs2 := r2.1
      simp only [if_true] at e2
      simp (disch := first | assumption | omega) [f_T_readLine, body_T_readLine, j_meth, j_out, j_rok, j_pad, lg_sl, s_seq_w, isN_inl, isN_inr, s_if, jb, x_c, x_iloc, x_aloc, x_lloc, x_bin, x_un, o_add, o_sub, o_mul, o_and, o_or, o_xor, o_shl, o_shr, o_ushr, o_max, o_min, o_i2b, o_i2c, o_i2l, o_l2i, x_fld, j_fget, x_idx, j_aget, x_len, j_alen, x_ofb, x_ite, xs_nil, xs_cons, x_callv, x_calls, s_callv, s_calls, j_recv, j_ret, j_retv, b_cmp, b_and, b_or, b_not, b_ofi, b_ite, b_true, s_skip, s_set, j_ty, j_lset, j_kill, s_inc, s_fput, j_fput, s_fop, s_aput, j_aput, j_nar, s_aop, s_ret, s_retv, s_go, s_pop, x_linc, x_finc, Value.category, if_icmp.holds, List.flatMap_cons, List.flatMap_nil, List.length_cons, List.length_append, List.length_nil, List.set_cons_succ, List.set_cons_zero, List.getElem?_cons_succ, List.getElem?_cons_zero, List.replicate, ite_and', ite_or', ite_int', nI_leI, nI_ltI, nI_eq, nI_add, nI_1, pk_mul, nI_clamp, n_in', nI_pos', nI_pos, n_m1e, n_01, n_10, sT_1, sR_1_0, sR_1_1, sR_1_2, sR_1_3, sR_1_4, sR_1_5, sR_1_6, sR_1_7, sR_1_8, sR_1_9, sT_2, sT_3, sT_4, sT_5, sT_6, sT_7, sT_8, sT_9, sT_10, sT_11, sT_12, sT_13, sT_14, sR_2_1, sR_2_2, sR_2_3, sR_2_4, sR_2_5, sR_2_6, sR_2_7, sR_2_8, sR_2_9, sR_2_10, sR_2_11, sR_2_12, sT_15, sT_16, sT_17, sT_18, sT_19, sT_20, sT_21, sT_22, sT_23, sR_15_1, sR_15_2, sR_15_3, sR_15_4, sR_15_5, sR_15_6, sR_15_7, sR_15_8, sT_24, sT_25, sT_26, sT_27, sT_28, sT_29, sR_24_1, sR_24_2, sR_24_3, sR_24_4, sR_24_5, sT_71, sT_72, sR_71_0, sR_71_1, sR_71_2, sR_71_3, sR_71_4, sT_73, sT_74, sT_75, sR_73_0, sR_73_1, sR_73_2, sR_73_3, sR_73_4, sR_73_5, sT_84, sT_85, sT_86, sT_87, sR_84_0, sR_84_1, sR_84_2, sR_84_3, sR_84_4, sR_84_5, sT_88, sT_89, sR_88_0, sT_90, sT_91, sR_90_0, s_sw, s_lsw, en, t113, c2, hh1, e2]
  by_cases z2 : tg tx i = some 99
  · rw [nxs _ z2] at en
    obtain ⟨h2, e2, r2, f2, k2⟩ := e_T_readNumber r1 (by omega) c1 false
    have hK : pLn tx i C = match pNum tx (i + 1) with
      | none => (none, i + 1)
      | some q => (some (C.1, some q.1, C.2.2), q.2) := by unfold pLn; rw [if_neg z1, if_pos z2]; cases pNum tx (i + 1) <;> rfl
    cases hp : pNum tx (i + 1) with
    | none =>
      rw [hp] at hK e2 r2 k2
      rw [hK]
      refine ⟨h2, ?_, r2, Fr_trans f1' f2, fun D hD => by cases hD⟩
      have hs2 := r2.1
      simp only [Bool.false_eq_true, if_false] at e2
      simp (disch := first | assumption | omega) [f_T_readLine, body_T_readLine, j_meth, j_out, j_rok, j_pad, lg_sl, s_seq_w, isN_inl, isN_inr, s_if, jb, x_c, x_iloc, x_aloc, x_lloc, x_bin, x_un, o_add, o_sub, o_mul, o_and, o_or, o_xor, o_shl, o_shr, o_ushr, o_max, o_min, o_i2b, o_i2c, o_i2l, o_l2i, x_fld, j_fget, x_idx, j_aget, x_len, j_alen, x_ofb, x_ite, xs_nil, xs_cons, x_callv, x_calls, s_callv, s_calls, j_recv, j_ret, j_retv, b_cmp, b_and, b_or, b_not, b_ofi, b_ite, b_true, s_skip, s_set, j_ty, j_lset, j_kill, s_inc, s_fput, j_fput, s_fop, s_aput, j_aput, j_nar, s_aop, s_ret, s_retv, s_go, s_pop, x_linc, x_finc, Value.category, if_icmp.holds, List.flatMap_cons, List.flatMap_nil, List.length_cons, List.length_append, List.length_nil, List.set_cons_succ, List.set_cons_zero, List.getElem?_cons_succ, List.getElem?_cons_zero, List.replicate, ite_and', ite_or', ite_int', nI_leI, nI_ltI, nI_eq, nI_add, nI_1, pk_mul, nI_clamp, n_in', nI_pos', nI_pos, n_m1e, n_01, n_10, sT_1, sR_1_0, sR_1_1, sR_1_2, sR_1_3, sR_1_4, sR_1_5, sR_1_6, sR_1_7, sR_1_8, sR_1_9, sT_2, sT_3, sT_4, sT_5, sT_6, sT_7, sT_8, sT_9, sT_10, sT_11, sT_12, sT_13, sT_14, sR_2_1, sR_2_2, sR_2_3, sR_2_4, sR_2_5, sR_2_6, sR_2_7, sR_2_8, sR_2_9, sR_2_10, sR_2_11, sR_2_12, sT_15, sT_16, sT_17, sT_18, sT_19, sT_20, sT_21, sT_22, sT_23, sR_15_1, sR_15_2, sR_15_3, sR_15_4, sR_15_5, sR_15_6, sR_15_7, sR_15_8, sT_24, sT_25, sT_26, sT_27, sT_28, sT_29, sR_24_1, sR_24_2, sR_24_3, sR_24_4, sR_24_5, sT_71, sT_72, sR_71_0, sR_71_1, sR_71_2, sR_71_3, sR_71_4, sT_73, sT_74, sT_75, sR_73_0, sR_73_1, sR_73_2, sR_73_3, sR_73_4, sR_73_5, sT_84, sT_85, sT_86, sT_87, sR_84_0, sR_84_1, sR_84_2, sR_84_3, sR_84_4, sR_84_5, sT_88, sT_89, sR_88_0, sT_90, sT_91, sR_90_0, s_sw, s_lsw, en, t99, c2, hh1, e2]
    | some q =>
      rw [hp] at hK e2 r2 k2
      rw [hK]
      refine ⟨h2, ?_, r2, Fr_trans f1' f2, fun D hD => by cases hD; exact k2 q rfl⟩
      have hs2 := r2.1
      simp only [Bool.false_eq_true, if_false] at e2
      simp (disch := first | assumption | omega) [f_T_readLine, body_T_readLine, j_meth, j_out, j_rok, j_pad, lg_sl, s_seq_w, isN_inl, isN_inr, s_if, jb, x_c, x_iloc, x_aloc, x_lloc, x_bin, x_un, o_add, o_sub, o_mul, o_and, o_or, o_xor, o_shl, o_shr, o_ushr, o_max, o_min, o_i2b, o_i2c, o_i2l, o_l2i, x_fld, j_fget, x_idx, j_aget, x_len, j_alen, x_ofb, x_ite, xs_nil, xs_cons, x_callv, x_calls, s_callv, s_calls, j_recv, j_ret, j_retv, b_cmp, b_and, b_or, b_not, b_ofi, b_ite, b_true, s_skip, s_set, j_ty, j_lset, j_kill, s_inc, s_fput, j_fput, s_fop, s_aput, j_aput, j_nar, s_aop, s_ret, s_retv, s_go, s_pop, x_linc, x_finc, Value.category, if_icmp.holds, List.flatMap_cons, List.flatMap_nil, List.length_cons, List.length_append, List.length_nil, List.set_cons_succ, List.set_cons_zero, List.getElem?_cons_succ, List.getElem?_cons_zero, List.replicate, ite_and', ite_or', ite_int', nI_leI, nI_ltI, nI_eq, nI_add, nI_1, pk_mul, nI_clamp, n_in', nI_pos', nI_pos, n_m1e, n_01, n_10, sT_1, sR_1_0, sR_1_1, sR_1_2, sR_1_3, sR_1_4, sR_1_5, sR_1_6, sR_1_7, sR_1_8, sR_1_9, sT_2, sT_3, sT_4, sT_5, sT_6, sT_7, sT_8, sT_9, sT_10, sT_11, sT_12, sT_13, sT_14, sR_2_1, sR_2_2, sR_2_3, sR_2_4, sR_2_5, sR_2_6, sR_2_7, sR_2_8, sR_2_9, sR_2_10, sR_2_11, sR_2_12, sT_15, sT_16, sT_17, sT_18, sT_19, sT_20, sT_21, sT_22, sT_23, sR_15_1, sR_15_2, sR_15_3, sR_15_4, sR_15_5, sR_15_6, sR_15_7, sR_15_8, sT_24, sT_25, sT_26, sT_27, sT_28, sT_29, sR_24_1, sR_24_2, sR_24_3, sR_24_4, sR_24_5, sT_71, sT_72, sR_71_0, sR_71_1, sR_71_2, sR_71_3, sR_71_4, sT_73, sT_74, sT_75, sR_73_0, sR_73_1, sR_73_2, sR_73_3, sR_73_4, sR_73_5, sT_84, sT_85, sT_86, sT_87, sR_84_0, sR_84_1, sR_84_2, sR_84_3, sR_84_4, sR_84_5, sT_88, sT_89, sR_88_0, sT_90, sT_91, sR_90_0, s_sw, s_lsw, en, t99, c2, hh1, e2]
  by_cases z3 : tg tx i = some 114
  · rw [nxs _ z3] at en
    obtain ⟨h2, e2, r2, f2, k2⟩ := e_T_readKeys r1 (by omega) c1
    have hK : pLn tx i C = match pKyA tx (i + 1) with
      | (none, j) => (none, j)
      | (some ks, j) => (some (C.1, C.2.1, ks, C.2.2.2), j) := by unfold pLn; rw [if_neg z1, if_neg z2, if_pos z3]; rcases pKyA tx (i + 1) with ⟨_ | _, _⟩ <;> rfl
    cases hp : pKyA tx (i + 1) with
    | mk o j =>
      cases o with
      | none =>
        rw [hp] at hK e2 r2 k2
        rw [hK]
        refine ⟨h2, ?_, r2, Fr_trans f1' f2, fun D hD => by cases hD⟩
        have hs2 := r2.1
        simp (disch := first | assumption | omega) [f_T_readLine, body_T_readLine, j_meth, j_out, j_rok, j_pad, lg_sl, s_seq_w, isN_inl, isN_inr, s_if, jb, x_c, x_iloc, x_aloc, x_lloc, x_bin, x_un, o_add, o_sub, o_mul, o_and, o_or, o_xor, o_shl, o_shr, o_ushr, o_max, o_min, o_i2b, o_i2c, o_i2l, o_l2i, x_fld, j_fget, x_idx, j_aget, x_len, j_alen, x_ofb, x_ite, xs_nil, xs_cons, x_callv, x_calls, s_callv, s_calls, j_recv, j_ret, j_retv, b_cmp, b_and, b_or, b_not, b_ofi, b_ite, b_true, s_skip, s_set, j_ty, j_lset, j_kill, s_inc, s_fput, j_fput, s_fop, s_aput, j_aput, j_nar, s_aop, s_ret, s_retv, s_go, s_pop, x_linc, x_finc, Value.category, if_icmp.holds, List.flatMap_cons, List.flatMap_nil, List.length_cons, List.length_append, List.length_nil, List.set_cons_succ, List.set_cons_zero, List.getElem?_cons_succ, List.getElem?_cons_zero, List.replicate, ite_and', ite_or', ite_int', nI_leI, nI_ltI, nI_eq, nI_add, nI_1, pk_mul, nI_clamp, n_in', nI_pos', nI_pos, n_m1e, n_01, n_10, sT_1, sR_1_0, sR_1_1, sR_1_2, sR_1_3, sR_1_4, sR_1_5, sR_1_6, sR_1_7, sR_1_8, sR_1_9, sT_2, sT_3, sT_4, sT_5, sT_6, sT_7, sT_8, sT_9, sT_10, sT_11, sT_12, sT_13, sT_14, sR_2_1, sR_2_2, sR_2_3, sR_2_4, sR_2_5, sR_2_6, sR_2_7, sR_2_8, sR_2_9, sR_2_10, sR_2_11, sR_2_12, sT_15, sT_16, sT_17, sT_18, sT_19, sT_20, sT_21, sT_22, sT_23, sR_15_1, sR_15_2, sR_15_3, sR_15_4, sR_15_5, sR_15_6, sR_15_7, sR_15_8, sT_24, sT_25, sT_26, sT_27, sT_28, sT_29, sR_24_1, sR_24_2, sR_24_3, sR_24_4, sR_24_5, sT_71, sT_72, sR_71_0, sR_71_1, sR_71_2, sR_71_3, sR_71_4, sT_73, sT_74, sT_75, sR_73_0, sR_73_1, sR_73_2, sR_73_3, sR_73_4, sR_73_5, sT_84, sT_85, sT_86, sT_87, sR_84_0, sR_84_1, sR_84_2, sR_84_3, sR_84_4, sR_84_5, sT_88, sT_89, sR_88_0, sT_90, sT_91, sR_90_0, s_sw, s_lsw, en, t114, c2, hh1, e2]
      | some ks =>
        rw [hp] at hK e2 r2 k2
        rw [hK]
        refine ⟨h2, ?_, r2, Fr_trans f1' f2, fun D hD => by cases hD; exact k2 ks rfl⟩
        have hs2 := r2.1
        simp (disch := first | assumption | omega) [f_T_readLine, body_T_readLine, j_meth, j_out, j_rok, j_pad, lg_sl, s_seq_w, isN_inl, isN_inr, s_if, jb, x_c, x_iloc, x_aloc, x_lloc, x_bin, x_un, o_add, o_sub, o_mul, o_and, o_or, o_xor, o_shl, o_shr, o_ushr, o_max, o_min, o_i2b, o_i2c, o_i2l, o_l2i, x_fld, j_fget, x_idx, j_aget, x_len, j_alen, x_ofb, x_ite, xs_nil, xs_cons, x_callv, x_calls, s_callv, s_calls, j_recv, j_ret, j_retv, b_cmp, b_and, b_or, b_not, b_ofi, b_ite, b_true, s_skip, s_set, j_ty, j_lset, j_kill, s_inc, s_fput, j_fput, s_fop, s_aput, j_aput, j_nar, s_aop, s_ret, s_retv, s_go, s_pop, x_linc, x_finc, Value.category, if_icmp.holds, List.flatMap_cons, List.flatMap_nil, List.length_cons, List.length_append, List.length_nil, List.set_cons_succ, List.set_cons_zero, List.getElem?_cons_succ, List.getElem?_cons_zero, List.replicate, ite_and', ite_or', ite_int', nI_leI, nI_ltI, nI_eq, nI_add, nI_1, pk_mul, nI_clamp, n_in', nI_pos', nI_pos, n_m1e, n_01, n_10, sT_1, sR_1_0, sR_1_1, sR_1_2, sR_1_3, sR_1_4, sR_1_5, sR_1_6, sR_1_7, sR_1_8, sR_1_9, sT_2, sT_3, sT_4, sT_5, sT_6, sT_7, sT_8, sT_9, sT_10, sT_11, sT_12, sT_13, sT_14, sR_2_1, sR_2_2, sR_2_3, sR_2_4, sR_2_5, sR_2_6, sR_2_7, sR_2_8, sR_2_9, sR_2_10, sR_2_11, sR_2_12, sT_15, sT_16, sT_17, sT_18, sT_19, sT_20, sT_21, sT_22, sT_23, sR_15_1, sR_15_2, sR_15_3, sR_15_4, sR_15_5, sR_15_6, sR_15_7, sR_15_8, sT_24, sT_25, sT_26, sT_27, sT_28, sT_29, sR_24_1, sR_24_2, sR_24_3, sR_24_4, sR_24_5, sT_71, sT_72, sR_71_0, sR_71_1, sR_71_2, sR_71_3, sR_71_4, sT_73, sT_74, sT_75, sR_73_0, sR_73_1, sR_73_2, sR_73_3, sR_73_4, sR_73_5, sT_84, sT_85, sT_86, sT_87, sR_84_0, sR_84_1, sR_84_2, sR_84_3, sR_84_4, sR_84_5, sT_88, sT_89, sR_88_0, sT_90, sT_91, sR_90_0, s_sw, s_lsw, en, t114, c2, hh1, e2]
  by_cases z4 : tg tx i = some 107
  · rw [nxs _ z4] at en
    obtain ⟨h2, e2, r2, f2, k2⟩ := e_T_readKept r1 (by omega) c1 hC.2.2.2.2.2.1
    have hK : pLn tx i C = match pKep tx (i + 1) with
      | (none, j) => (none, j)
      | (some m, j) => (some (C.1, C.2.1, C.2.2.1, cKeeps C ++ [m], C.2.2.2.2), j) := by unfold pLn; rw [if_neg z1, if_neg z2, if_neg z3, if_pos z4]; rcases pKep tx (i + 1) with ⟨_ | _, _⟩ <;> rfl
    cases hp : pKep tx (i + 1) with
    | mk o j =>
      cases o with
      | none =>
        rw [hp] at hK e2 r2 k2
        rw [hK]
        refine ⟨h2, ?_, r2, Fr_trans f1' f2, fun D hD => by cases hD⟩
        have hs2 := r2.1
        simp (disch := first | assumption | omega) [f_T_readLine, body_T_readLine, j_meth, j_out, j_rok, j_pad, lg_sl, s_seq_w, isN_inl, isN_inr, s_if, jb, x_c, x_iloc, x_aloc, x_lloc, x_bin, x_un, o_add, o_sub, o_mul, o_and, o_or, o_xor, o_shl, o_shr, o_ushr, o_max, o_min, o_i2b, o_i2c, o_i2l, o_l2i, x_fld, j_fget, x_idx, j_aget, x_len, j_alen, x_ofb, x_ite, xs_nil, xs_cons, x_callv, x_calls, s_callv, s_calls, j_recv, j_ret, j_retv, b_cmp, b_and, b_or, b_not, b_ofi, b_ite, b_true, s_skip, s_set, j_ty, j_lset, j_kill, s_inc, s_fput, j_fput, s_fop, s_aput, j_aput, j_nar, s_aop, s_ret, s_retv, s_go, s_pop, x_linc, x_finc, Value.category, if_icmp.holds, List.flatMap_cons, List.flatMap_nil, List.length_cons, List.length_append, List.length_nil, List.set_cons_succ, List.set_cons_zero, List.getElem?_cons_succ, List.getElem?_cons_zero, List.replicate, ite_and', ite_or', ite_int', nI_leI, nI_ltI, nI_eq, nI_add, nI_1, pk_mul, nI_clamp, n_in', nI_pos', nI_pos, n_m1e, n_01, n_10, sT_1, sR_1_0, sR_1_1, sR_1_2, sR_1_3, sR_1_4, sR_1_5, sR_1_6, sR_1_7, sR_1_8, sR_1_9, sT_2, sT_3, sT_4, sT_5, sT_6, sT_7, sT_8, sT_9, sT_10, sT_11, sT_12, sT_13, sT_14, sR_2_1, sR_2_2, sR_2_3, sR_2_4, sR_2_5, sR_2_6, sR_2_7, sR_2_8, sR_2_9, sR_2_10, sR_2_11, sR_2_12, sT_15, sT_16, sT_17, sT_18, sT_19, sT_20, sT_21, sT_22, sT_23, sR_15_1, sR_15_2, sR_15_3, sR_15_4, sR_15_5, sR_15_6, sR_15_7, sR_15_8, sT_24, sT_25, sT_26, sT_27, sT_28, sT_29, sR_24_1, sR_24_2, sR_24_3, sR_24_4, sR_24_5, sT_71, sT_72, sR_71_0, sR_71_1, sR_71_2, sR_71_3, sR_71_4, sT_73, sT_74, sT_75, sR_73_0, sR_73_1, sR_73_2, sR_73_3, sR_73_4, sR_73_5, sT_84, sT_85, sT_86, sT_87, sR_84_0, sR_84_1, sR_84_2, sR_84_3, sR_84_4, sR_84_5, sT_88, sT_89, sR_88_0, sT_90, sT_91, sR_90_0, s_sw, s_lsw, en, t107, c2, hh1, e2]
      | some m =>
        rw [hp] at hK e2 r2 k2
        rw [hK]
        refine ⟨h2, ?_, r2, Fr_trans f1' f2, fun D hD => by cases hD; exact k2 m rfl⟩
        have hs2 := r2.1
        simp (disch := first | assumption | omega) [f_T_readLine, body_T_readLine, j_meth, j_out, j_rok, j_pad, lg_sl, s_seq_w, isN_inl, isN_inr, s_if, jb, x_c, x_iloc, x_aloc, x_lloc, x_bin, x_un, o_add, o_sub, o_mul, o_and, o_or, o_xor, o_shl, o_shr, o_ushr, o_max, o_min, o_i2b, o_i2c, o_i2l, o_l2i, x_fld, j_fget, x_idx, j_aget, x_len, j_alen, x_ofb, x_ite, xs_nil, xs_cons, x_callv, x_calls, s_callv, s_calls, j_recv, j_ret, j_retv, b_cmp, b_and, b_or, b_not, b_ofi, b_ite, b_true, s_skip, s_set, j_ty, j_lset, j_kill, s_inc, s_fput, j_fput, s_fop, s_aput, j_aput, j_nar, s_aop, s_ret, s_retv, s_go, s_pop, x_linc, x_finc, Value.category, if_icmp.holds, List.flatMap_cons, List.flatMap_nil, List.length_cons, List.length_append, List.length_nil, List.set_cons_succ, List.set_cons_zero, List.getElem?_cons_succ, List.getElem?_cons_zero, List.replicate, ite_and', ite_or', ite_int', nI_leI, nI_ltI, nI_eq, nI_add, nI_1, pk_mul, nI_clamp, n_in', nI_pos', nI_pos, n_m1e, n_01, n_10, sT_1, sR_1_0, sR_1_1, sR_1_2, sR_1_3, sR_1_4, sR_1_5, sR_1_6, sR_1_7, sR_1_8, sR_1_9, sT_2, sT_3, sT_4, sT_5, sT_6, sT_7, sT_8, sT_9, sT_10, sT_11, sT_12, sT_13, sT_14, sR_2_1, sR_2_2, sR_2_3, sR_2_4, sR_2_5, sR_2_6, sR_2_7, sR_2_8, sR_2_9, sR_2_10, sR_2_11, sR_2_12, sT_15, sT_16, sT_17, sT_18, sT_19, sT_20, sT_21, sT_22, sT_23, sR_15_1, sR_15_2, sR_15_3, sR_15_4, sR_15_5, sR_15_6, sR_15_7, sR_15_8, sT_24, sT_25, sT_26, sT_27, sT_28, sT_29, sR_24_1, sR_24_2, sR_24_3, sR_24_4, sR_24_5, sT_71, sT_72, sR_71_0, sR_71_1, sR_71_2, sR_71_3, sR_71_4, sT_73, sT_74, sT_75, sR_73_0, sR_73_1, sR_73_2, sR_73_3, sR_73_4, sR_73_5, sT_84, sT_85, sT_86, sT_87, sR_84_0, sR_84_1, sR_84_2, sR_84_3, sR_84_4, sR_84_5, sT_88, sT_89, sR_88_0, sT_90, sT_91, sR_90_0, s_sw, s_lsw, en, t107, c2, hh1, e2]
  have n4 : a + 4 ≠ 0 := by omega
  have n5 : a + 5 ≠ 0 := by omega
  by_cases z5 : tg tx i = some 119
  · rw [nxs _ z5] at en
    obtain ⟨h2, e2, r2, f2, k2⟩ := e_T_readTwo (P := a + 4) (sg := 38) (g := twM (cBoths C)) r1 (by omega) ⟨by omega, by omega⟩ (by decide) w7 (fun p hp => (c1.2.2.2.2.2.2 p hp).1)
    have hK : pLn tx i C = match pTwo tx 38 (i + 1) with
      | (none, j) => (none, j)
      | (some m, j) => (some (C.1, C.2.1, C.2.2.1, C.2.2.2.1, cBoths C ++ [m], C.2.2.2.2.2), j) := by unfold pLn; rw [if_neg z1, if_neg z2, if_neg z3, if_neg z4, if_pos z5]; rcases pTwo tx 38 (i + 1) with ⟨_ | _, _⟩ <;> rfl
    cases hp : pTwo tx 38 (i + 1) with
    | mk o j =>
      cases o with
      | none =>
        rw [hp] at hK e2 r2 k2
        rw [hK]
        refine ⟨h2, ?_, r2, Fr_trans f1' f2, fun D hD => by cases hD⟩
        have hs2 := r2.1
        simp (disch := first | assumption | omega) [f_T_readLine, body_T_readLine, j_meth, j_out, j_rok, j_pad, lg_sl, s_seq_w, isN_inl, isN_inr, s_if, jb, x_c, x_iloc, x_aloc, x_lloc, x_bin, x_un, o_add, o_sub, o_mul, o_and, o_or, o_xor, o_shl, o_shr, o_ushr, o_max, o_min, o_i2b, o_i2c, o_i2l, o_l2i, x_fld, j_fget, x_idx, j_aget, x_len, j_alen, x_ofb, x_ite, xs_nil, xs_cons, x_callv, x_calls, s_callv, s_calls, j_recv, j_ret, j_retv, b_cmp, b_and, b_or, b_not, b_ofi, b_ite, b_true, s_skip, s_set, j_ty, j_lset, j_kill, s_inc, s_fput, j_fput, s_fop, s_aput, j_aput, j_nar, s_aop, s_ret, s_retv, s_go, s_pop, x_linc, x_finc, Value.category, if_icmp.holds, List.flatMap_cons, List.flatMap_nil, List.length_cons, List.length_append, List.length_nil, List.set_cons_succ, List.set_cons_zero, List.getElem?_cons_succ, List.getElem?_cons_zero, List.replicate, ite_and', ite_or', ite_int', nI_leI, nI_ltI, nI_eq, nI_add, nI_1, pk_mul, nI_clamp, n_in', nI_pos', nI_pos, n_m1e, n_01, n_10, sT_1, sR_1_0, sR_1_1, sR_1_2, sR_1_3, sR_1_4, sR_1_5, sR_1_6, sR_1_7, sR_1_8, sR_1_9, sT_2, sT_3, sT_4, sT_5, sT_6, sT_7, sT_8, sT_9, sT_10, sT_11, sT_12, sT_13, sT_14, sR_2_1, sR_2_2, sR_2_3, sR_2_4, sR_2_5, sR_2_6, sR_2_7, sR_2_8, sR_2_9, sR_2_10, sR_2_11, sR_2_12, sT_15, sT_16, sT_17, sT_18, sT_19, sT_20, sT_21, sT_22, sT_23, sR_15_1, sR_15_2, sR_15_3, sR_15_4, sR_15_5, sR_15_6, sR_15_7, sR_15_8, sT_24, sT_25, sT_26, sT_27, sT_28, sT_29, sR_24_1, sR_24_2, sR_24_3, sR_24_4, sR_24_5, sT_71, sT_72, sR_71_0, sR_71_1, sR_71_2, sR_71_3, sR_71_4, sT_73, sT_74, sT_75, sR_73_0, sR_73_1, sR_73_2, sR_73_3, sR_73_4, sR_73_5, sT_84, sT_85, sT_86, sT_87, sR_84_0, sR_84_1, sR_84_2, sR_84_3, sR_84_4, sR_84_5, sT_88, sT_89, sR_88_0, sT_90, sT_91, sR_90_0, s_sw, s_lsw, en, t119, c2, hh1, R1, ha0, v0, v7, n4, e2]
      | some m =>
        rw [hp] at hK e2 r2 k2
        rw [hK]
        refine ⟨h2, ?_, r2, Fr_trans f1' f2, fun D hD => ?_⟩
        · have hs2 := r2.1
          clear k2
          simp (disch := first | assumption | omega) [f_T_readLine, body_T_readLine, j_meth, j_out, j_rok, j_pad, lg_sl, s_seq_w, isN_inl, isN_inr, s_if, jb, x_c, x_iloc, x_aloc, x_lloc, x_bin, x_un, o_add, o_sub, o_mul, o_and, o_or, o_xor, o_shl, o_shr, o_ushr, o_max, o_min, o_i2b, o_i2c, o_i2l, o_l2i, x_fld, j_fget, x_idx, j_aget, x_len, j_alen, x_ofb, x_ite, xs_nil, xs_cons, x_callv, x_calls, s_callv, s_calls, j_recv, j_ret, j_retv, b_cmp, b_and, b_or, b_not, b_ofi, b_ite, b_true, s_skip, s_set, j_ty, j_lset, j_kill, s_inc, s_fput, j_fput, s_fop, s_aput, j_aput, j_nar, s_aop, s_ret, s_retv, s_go, s_pop, x_linc, x_finc, Value.category, if_icmp.holds, List.flatMap_cons, List.flatMap_nil, List.length_cons, List.length_append, List.length_nil, List.set_cons_succ, List.set_cons_zero, List.getElem?_cons_succ, List.getElem?_cons_zero, List.replicate, ite_and', ite_or', ite_int', nI_leI, nI_ltI, nI_eq, nI_add, nI_1, pk_mul, nI_clamp, n_in', nI_pos', nI_pos, n_m1e, n_01, n_10, sT_1, sR_1_0, sR_1_1, sR_1_2, sR_1_3, sR_1_4, sR_1_5, sR_1_6, sR_1_7, sR_1_8, sR_1_9, sT_2, sT_3, sT_4, sT_5, sT_6, sT_7, sT_8, sT_9, sT_10, sT_11, sT_12, sT_13, sT_14, sR_2_1, sR_2_2, sR_2_3, sR_2_4, sR_2_5, sR_2_6, sR_2_7, sR_2_8, sR_2_9, sR_2_10, sR_2_11, sR_2_12, sT_15, sT_16, sT_17, sT_18, sT_19, sT_20, sT_21, sT_22, sT_23, sR_15_1, sR_15_2, sR_15_3, sR_15_4, sR_15_5, sR_15_6, sR_15_7, sR_15_8, sT_24, sT_25, sT_26, sT_27, sT_28, sT_29, sR_24_1, sR_24_2, sR_24_3, sR_24_4, sR_24_5, sT_71, sT_72, sR_71_0, sR_71_1, sR_71_2, sR_71_3, sR_71_4, sT_73, sT_74, sT_75, sR_73_0, sR_73_1, sR_73_2, sR_73_3, sR_73_4, sR_73_5, sT_84, sT_85, sT_86, sT_87, sR_84_0, sR_84_1, sR_84_2, sR_84_3, sR_84_4, sR_84_5, sT_88, sT_89, sR_88_0, sT_90, sT_91, sR_90_0, s_sw, s_lsw, en, t119, c2, hh1, R1, ha0, v0, v7, n4, e2]
        · cases hD
          obtain ⟨x, y, h3, hx, hy, hxy, hm, f3, he⟩ := k2 m rfl
          rw [hm, he]
          exact CHc_both hxy (CHc_882 ha c1 f3)
  by_cases z6 : tg tx i = some 120
  · rw [nxs _ z6] at en
    obtain ⟨h2, e2, r2, f2, k2⟩ := e_T_readTwo (P := a + 5) (sg := 124) (g := twM (cNevers C)) r1 (by omega) ⟨by omega, by omega⟩ (by decide) w8 (fun p hp => (c1.2.2.2.2.2.2 p hp).2)
    have hK : pLn tx i C = match pTwo tx 124 (i + 1) with
      | (none, j) => (none, j)
      | (some m, j) => (some (C.1, C.2.1, C.2.2.1, C.2.2.2.1, C.2.2.2.2.1, cNevers C ++ [m]), j) := by unfold pLn; rw [if_neg z1, if_neg z2, if_neg z3, if_neg z4, if_neg z5, if_pos z6]; rcases pTwo tx 124 (i + 1) with ⟨_ | _, _⟩ <;> rfl
    cases hp : pTwo tx 124 (i + 1) with
    | mk o j =>
      cases o with
      | none =>
        rw [hp] at hK e2 r2 k2
        rw [hK]
        refine ⟨h2, ?_, r2, Fr_trans f1' f2, fun D hD => by cases hD⟩
        have hs2 := r2.1
        simp (disch := first | assumption | omega) [f_T_readLine, body_T_readLine, j_meth, j_out, j_rok, j_pad, lg_sl, s_seq_w, isN_inl, isN_inr, s_if, jb, x_c, x_iloc, x_aloc, x_lloc, x_bin, x_un, o_add, o_sub, o_mul, o_and, o_or, o_xor, o_shl, o_shr, o_ushr, o_max, o_min, o_i2b, o_i2c, o_i2l, o_l2i, x_fld, j_fget, x_idx, j_aget, x_len, j_alen, x_ofb, x_ite, xs_nil, xs_cons, x_callv, x_calls, s_callv, s_calls, j_recv, j_ret, j_retv, b_cmp, b_and, b_or, b_not, b_ofi, b_ite, b_true, s_skip, s_set, j_ty, j_lset, j_kill, s_inc, s_fput, j_fput, s_fop, s_aput, j_aput, j_nar, s_aop, s_ret, s_retv, s_go, s_pop, x_linc, x_finc, Value.category, if_icmp.holds, List.flatMap_cons, List.flatMap_nil, List.length_cons, List.length_append, List.length_nil, List.set_cons_succ, List.set_cons_zero, List.getElem?_cons_succ, List.getElem?_cons_zero, List.replicate, ite_and', ite_or', ite_int', nI_leI, nI_ltI, nI_eq, nI_add, nI_1, pk_mul, nI_clamp, n_in', nI_pos', nI_pos, n_m1e, n_01, n_10, sT_1, sR_1_0, sR_1_1, sR_1_2, sR_1_3, sR_1_4, sR_1_5, sR_1_6, sR_1_7, sR_1_8, sR_1_9, sT_2, sT_3, sT_4, sT_5, sT_6, sT_7, sT_8, sT_9, sT_10, sT_11, sT_12, sT_13, sT_14, sR_2_1, sR_2_2, sR_2_3, sR_2_4, sR_2_5, sR_2_6, sR_2_7, sR_2_8, sR_2_9, sR_2_10, sR_2_11, sR_2_12, sT_15, sT_16, sT_17, sT_18, sT_19, sT_20, sT_21, sT_22, sT_23, sR_15_1, sR_15_2, sR_15_3, sR_15_4, sR_15_5, sR_15_6, sR_15_7, sR_15_8, sT_24, sT_25, sT_26, sT_27, sT_28, sT_29, sR_24_1, sR_24_2, sR_24_3, sR_24_4, sR_24_5, sT_71, sT_72, sR_71_0, sR_71_1, sR_71_2, sR_71_3, sR_71_4, sT_73, sT_74, sT_75, sR_73_0, sR_73_1, sR_73_2, sR_73_3, sR_73_4, sR_73_5, sT_84, sT_85, sT_86, sT_87, sR_84_0, sR_84_1, sR_84_2, sR_84_3, sR_84_4, sR_84_5, sT_88, sT_89, sR_88_0, sT_90, sT_91, sR_90_0, s_sw, s_lsw, en, t120, c2, hh1, R1, ha0, v0, v8, n5, e2]
      | some m =>
        rw [hp] at hK e2 r2 k2
        rw [hK]
        refine ⟨h2, ?_, r2, Fr_trans f1' f2, fun D hD => ?_⟩
        · have hs2 := r2.1
          clear k2
          simp (disch := first | assumption | omega) [f_T_readLine, body_T_readLine, j_meth, j_out, j_rok, j_pad, lg_sl, s_seq_w, isN_inl, isN_inr, s_if, jb, x_c, x_iloc, x_aloc, x_lloc, x_bin, x_un, o_add, o_sub, o_mul, o_and, o_or, o_xor, o_shl, o_shr, o_ushr, o_max, o_min, o_i2b, o_i2c, o_i2l, o_l2i, x_fld, j_fget, x_idx, j_aget, x_len, j_alen, x_ofb, x_ite, xs_nil, xs_cons, x_callv, x_calls, s_callv, s_calls, j_recv, j_ret, j_retv, b_cmp, b_and, b_or, b_not, b_ofi, b_ite, b_true, s_skip, s_set, j_ty, j_lset, j_kill, s_inc, s_fput, j_fput, s_fop, s_aput, j_aput, j_nar, s_aop, s_ret, s_retv, s_go, s_pop, x_linc, x_finc, Value.category, if_icmp.holds, List.flatMap_cons, List.flatMap_nil, List.length_cons, List.length_append, List.length_nil, List.set_cons_succ, List.set_cons_zero, List.getElem?_cons_succ, List.getElem?_cons_zero, List.replicate, ite_and', ite_or', ite_int', nI_leI, nI_ltI, nI_eq, nI_add, nI_1, pk_mul, nI_clamp, n_in', nI_pos', nI_pos, n_m1e, n_01, n_10, sT_1, sR_1_0, sR_1_1, sR_1_2, sR_1_3, sR_1_4, sR_1_5, sR_1_6, sR_1_7, sR_1_8, sR_1_9, sT_2, sT_3, sT_4, sT_5, sT_6, sT_7, sT_8, sT_9, sT_10, sT_11, sT_12, sT_13, sT_14, sR_2_1, sR_2_2, sR_2_3, sR_2_4, sR_2_5, sR_2_6, sR_2_7, sR_2_8, sR_2_9, sR_2_10, sR_2_11, sR_2_12, sT_15, sT_16, sT_17, sT_18, sT_19, sT_20, sT_21, sT_22, sT_23, sR_15_1, sR_15_2, sR_15_3, sR_15_4, sR_15_5, sR_15_6, sR_15_7, sR_15_8, sT_24, sT_25, sT_26, sT_27, sT_28, sT_29, sR_24_1, sR_24_2, sR_24_3, sR_24_4, sR_24_5, sT_71, sT_72, sR_71_0, sR_71_1, sR_71_2, sR_71_3, sR_71_4, sT_73, sT_74, sT_75, sR_73_0, sR_73_1, sR_73_2, sR_73_3, sR_73_4, sR_73_5, sT_84, sT_85, sT_86, sT_87, sR_84_0, sR_84_1, sR_84_2, sR_84_3, sR_84_4, sR_84_5, sT_88, sT_89, sR_88_0, sT_90, sT_91, sR_90_0, s_sw, s_lsw, en, t120, c2, hh1, R1, ha0, v0, v8, n5, e2]
        · cases hD
          obtain ⟨x, y, h3, hx, hy, hxy, hm, f3, he⟩ := k2 m rfl
          rw [hm, he]
          exact CHc_nev hxy (CHc_882 ha c1 f3)
  have hK : pLn tx i C = (none, i) := by unfold pLn; rw [if_neg z1, if_neg z2, if_neg z3, if_neg z4, if_neg z5, if_neg z6]
  rw [hK]
  refine ⟨h, ?_, r, Fr_refl _ _, fun D hD => by cases hD⟩
  have hne : (nx tx i).toInt ≠ 99 ∧ (nx tx i).toInt ≠ 107 ∧ (nx tx i).toInt ≠ 113 ∧ (nx tx i).toInt ≠ 114 ∧ (nx tx i).toInt ≠ 119 ∧ (nx tx i).toInt ≠ 120 := by
    unfold nx
    cases ht : tg tx i with
    | none =>
      simp only
      split <;> decide
    | some b =>
      have hb' := (tg_256 hb ht).1
      simp only
      rw [nI_toInt (by omega)]
      rw [ht] at z1 z2 z3 z4 z5 z6
      simp only [Option.some.injEq] at z1 z2 z3 z4 z5 z6
      omega
  obtain ⟨y1, y2, y3, y4, y5, y6⟩ := hne
  generalize nx tx i = v at *
  simp (disch := first | assumption | omega) [f_T_readLine, body_T_readLine, j_meth, j_out, j_rok, j_pad, lg_sl, s_seq_w, isN_inl, isN_inr, s_if, jb, x_c, x_iloc, x_aloc, x_lloc, x_bin, x_un, o_add, o_sub, o_mul, o_and, o_or, o_xor, o_shl, o_shr, o_ushr, o_max, o_min, o_i2b, o_i2c, o_i2l, o_l2i, x_fld, j_fget, x_idx, j_aget, x_len, j_alen, x_ofb, x_ite, xs_nil, xs_cons, x_callv, x_calls, s_callv, s_calls, j_recv, j_ret, j_retv, b_cmp, b_and, b_or, b_not, b_ofi, b_ite, b_true, s_skip, s_set, j_ty, j_lset, j_kill, s_inc, s_fput, j_fput, s_fop, s_aput, j_aput, j_nar, s_aop, s_ret, s_retv, s_go, s_pop, x_linc, x_finc, Value.category, if_icmp.holds, List.flatMap_cons, List.flatMap_nil, List.length_cons, List.length_append, List.length_nil, List.set_cons_succ, List.set_cons_zero, List.getElem?_cons_succ, List.getElem?_cons_zero, List.replicate, ite_and', ite_or', ite_int', nI_leI, nI_ltI, nI_eq, nI_add, nI_1, pk_mul, nI_clamp, n_in', nI_pos', nI_pos, n_m1e, n_01, n_10, sT_1, sR_1_0, sR_1_1, sR_1_2, sR_1_3, sR_1_4, sR_1_5, sR_1_6, sR_1_7, sR_1_8, sR_1_9, sT_2, sT_3, sT_4, sT_5, sT_6, sT_7, sT_8, sT_9, sT_10, sT_11, sT_12, sT_13, sT_14, sR_2_1, sR_2_2, sR_2_3, sR_2_4, sR_2_5, sR_2_6, sR_2_7, sR_2_8, sR_2_9, sR_2_10, sR_2_11, sR_2_12, sT_15, sT_16, sT_17, sT_18, sT_19, sT_20, sT_21, sT_22, sT_23, sR_15_1, sR_15_2, sR_15_3, sR_15_4, sR_15_5, sR_15_6, sR_15_7, sR_15_8, sT_24, sT_25, sT_26, sT_27, sT_28, sT_29, sR_24_1, sR_24_2, sR_24_3, sR_24_4, sR_24_5, sT_71, sT_72, sR_71_0, sR_71_1, sR_71_2, sR_71_3, sR_71_4, sT_73, sT_74, sT_75, sR_73_0, sR_73_1, sR_73_2, sR_73_3, sR_73_4, sR_73_5, sT_84, sT_85, sT_86, sT_87, sR_84_0, sR_84_1, sR_84_2, sR_84_3, sR_84_4, sR_84_5, sT_88, sT_89, sR_88_0, sT_90, sT_91, sR_90_0, s_sw, s_lsw, en, y1, y2, y3, y4, y5, y6]
  try decide
