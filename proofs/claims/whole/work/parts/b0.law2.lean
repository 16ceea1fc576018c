/-! law, the call -/
theorem e_S_law_2 {A : AS} {rw : List Int32} {ca bl : Nat → Nat} {h : jHp} (mk : MK A h) (d : DK A ca bl h) (cr : CRw rw h) {f P : Nat} (u : Bool) {x : Int32} (hx : (x = 0) = (u = true)) (hf : f < 4) (hP : P < 2 ^ nOf A f) (v3 : Int32) : ∃ r h' bl', s_loop 3 4 lc_S_law_2 lb_S_law_2 lu_S_law_2 ([.ref 1, .int (nI f), .int x, .int v3, .int (nI P), .int (nI 0)], h) = some r ∧ Fr (Wlw f) h h' ∧ DK A ca bl' h' ∧ ((∃ i L, r = (.inr (some (.int (nI 0))), (L, h')) ∧ fst1 (lwQ A f u P) (nOf A f) = some i ∧ CRw (lwW A f u P i) h') ∨ (r = (.inl 0, ([.ref 1, .int (nI f), .int x, .int v3, .int (nI P), .int (nI (nOf A f))], h')) ∧ fst1 (lwQ A f u P) (nOf A f) = none ∧ CRw rw h')) := by
  have hs := mk.1.1
  have w := mk.1.2.1
  have h8 := nOf_le w f
  have hp8 : 2 ^ nOf A f ≤ 256 := Nat.pow_le_pow_right (n := 2) (by decide) h8
  have hWc : ∀ a j, Wlw f a j → ¬ cC a j := fun a j q => okW_cC (Wlw_ok hf q)
  have hL := loop_wp (lb := 3) (lc := 4) (c := lc_S_law_2) (b := lb_S_law_2) (u := lu_S_law_2) (nOf A f)
    (fun i st => ∃ h' bl', st = ([.ref 1, .int (nI f), .int x, .int v3, .int (nI P), .int (nI i)], h') ∧ Fr (Wlw f) h h' ∧ DK A ca bl' h' ∧ CRw rw h' ∧ ∀ m, m < i → lwQ A f u P m = false)
    (fun r => ∃ h' bl', Fr (Wlw f) h h' ∧ DK A ca bl' h' ∧ ((∃ i L, r = (.inr (some (.int (nI 0))), (L, h')) ∧ fst1 (lwQ A f u P) (nOf A f) = some i ∧ CRw (lwW A f u P i) h') ∨ (r = (.inl 0, ([.ref 1, .int (nI f), .int x, .int v3, .int (nI P), .int (nI (nOf A f))], h')) ∧ fst1 (lwQ A f u P) (nOf A f) = none ∧ CRw rw h')))
    ?_ ?_ ([.ref 1, .int (nI f), .int x, .int v3, .int (nI P), .int (nI 0)], h) ⟨h, bl, rfl, Fr_refl _ _, d, cr, fun m hm => by omega⟩
  · obtain ⟨r, e, h', bl', f', d', o⟩ := hL
    exact ⟨r, h', bl', e, f', d', o⟩
  · rintro i st hi ⟨h1, bl1, rfl, f1, d1, cr1, hall⟩
    have mk1 := MK_fr mk f1 hWc
    have hs1 := mk1.1.1
    have c10 : hI h1 10 f = nI (nOf A f) := mk1.1.2.2.1.2.2.1 f hf
    have hbt := n_bit (a := P) (k := i) (by omega) (by omega)
    have h00 : (nI 0 = 0) = True := by decide
    have h10 : (nI 1 = 0) = False := by decide
    have h11 : ((1 : Int32) = 0) = False := by decide
    by_cases z : P.testBit i = true
    · left
      rw [z] at hbt
      simp only [Bool.toNat_true] at hbt
      refine ⟨([.ref 1, .int (nI f), .int x, .int v3, .int (nI P), .int (nI (i + 1))], h1), ?_, h1, bl1, rfl, f1, d1, cr1, fun m hm => ?_⟩
      · clear d d1 mk mk1 f1 hall
        simp (disch := first | assumption | omega) [lstp, lc_S_law_2, lb_S_law_2, lu_S_law_2, j_meth, j_out, j_rok, j_pad, lg_sl, s_seq_w, isN_inl, isN_inr, s_if, jb, x_c, x_iloc, x_aloc, x_lloc, x_bin, x_un, o_add, o_sub, o_mul, o_and, o_or, o_xor, o_shl, o_shr, o_ushr, o_max, o_min, o_i2b, o_i2c, o_i2l, o_l2i, x_fld, j_fget, x_idx, j_aget, x_len, j_alen, x_ofb, x_ite, xs_nil, xs_cons, x_callv, x_calls, s_callv, s_calls, j_recv, j_ret, j_retv, b_cmp, b_and, b_or, b_not, b_ofi, b_ite, b_true, s_skip, s_set, j_ty, j_lset, j_kill, s_inc, s_fput, j_fput, s_fop, s_aput, j_aput, j_nar, s_aop, s_ret, s_retv, s_go, s_pop, x_linc, x_finc, Value.category, if_icmp.holds, List.flatMap_cons, List.flatMap_nil, List.length_cons, List.length_append, List.length_nil, List.set_cons_succ, List.set_cons_zero, List.getElem?_cons_succ, List.getElem?_cons_zero, List.replicate, ite_and', ite_or', ite_int', nI_leI, nI_ltI, nI_eq, nI_add, nI_1, pk_mul, nI_clamp, n_in', nI_pos', nI_pos, n_m1e, n_01, n_10, sT_1, sR_1_0, sR_1_1, sR_1_2, sR_1_3, sR_1_4, sR_1_5, sR_1_6, sR_1_7, sR_1_8, sR_1_9, sT_2, sT_3, sT_4, sT_5, sT_6, sT_7, sT_8, sT_9, sT_10, sT_11, sT_12, sT_13, sT_14, sR_2_1, sR_2_2, sR_2_3, sR_2_4, sR_2_5, sR_2_6, sR_2_7, sR_2_8, sR_2_9, sR_2_10, sR_2_11, sR_2_12, sT_15, sT_16, sT_17, sT_18, sT_19, sT_20, sT_21, sT_22, sT_23, sR_15_1, sR_15_2, sR_15_3, sR_15_4, sR_15_5, sR_15_6, sR_15_7, sR_15_8, sT_24, sT_25, sT_26, sT_27, sT_28, sT_29, sR_24_1, sR_24_2, sR_24_3, sR_24_4, sR_24_5, sT_71, sT_72, sR_71_0, sR_71_1, sR_71_2, sR_71_3, sR_71_4, sT_73, sT_74, sT_75, sR_73_0, sR_73_1, sR_73_2, sR_73_3, sR_73_4, sR_73_5, sT_84, sT_85, sT_86, sT_87, sR_84_0, sR_84_1, sR_84_2, sR_84_3, sR_84_4, sR_84_5, sT_88, sT_89, sR_88_0, sT_90, sT_91, sR_90_0, c10, hi, hbt, h10]
      · by_cases e : m = i
        · rw [e]; unfold lwQ; rw [z]; rfl
        · exact hall m (by omega)
    · have z' : P.testBit i = false := by simpa using z
      rw [z'] at hbt
      simp only [Bool.toNat_false] at hbt
      obtain ⟨h2, bl2, e2, f2, d2, c2⟩ := e_S_isBreach mk1 d1 cr1 u hx hf hP hi z'
      have hs2 := Fr_shape hs1 f2
      by_cases q : lwQ A f u P i = true
      · right
        rw [q] at e2 c2
        simp only [if_true] at e2 c2
        refine ⟨(.inr (some (.int (nI 0))), ([.ref 1, .int (nI f), .int x, .int v3, .int (nI P), .int (nI i)], h2)), ?_, h2, bl2, Fr_trans f1 f2, d2, Or.inl ⟨i, _, rfl, fst1_of hi q hall, c2⟩⟩
        clear d d1 d2 mk mk1 f1 f2 hall
        simp (disch := first | assumption | omega) [lstp, lc_S_law_2, lb_S_law_2, lu_S_law_2, j_meth, j_out, j_rok, j_pad, lg_sl, s_seq_w, isN_inl, isN_inr, s_if, jb, x_c, x_iloc, x_aloc, x_lloc, x_bin, x_un, o_add, o_sub, o_mul, o_and, o_or, o_xor, o_shl, o_shr, o_ushr, o_max, o_min, o_i2b, o_i2c, o_i2l, o_l2i, x_fld, j_fget, x_idx, j_aget, x_len, j_alen, x_ofb, x_ite, xs_nil, xs_cons, x_callv, x_calls, s_callv, s_calls, j_recv, j_ret, j_retv, b_cmp, b_and, b_or, b_not, b_ofi, b_ite, b_true, s_skip, s_set, j_ty, j_lset, j_kill, s_inc, s_fput, j_fput, s_fop, s_aput, j_aput, j_nar, s_aop, s_ret, s_retv, s_go, s_pop, x_linc, x_finc, Value.category, if_icmp.holds, List.flatMap_cons, List.flatMap_nil, List.length_cons, List.length_append, List.length_nil, List.set_cons_succ, List.set_cons_zero, List.getElem?_cons_succ, List.getElem?_cons_zero, List.replicate, ite_and', ite_or', ite_int', nI_leI, nI_ltI, nI_eq, nI_add, nI_1, pk_mul, nI_clamp, n_in', nI_pos', nI_pos, n_m1e, n_01, n_10, sT_1, sR_1_0, sR_1_1, sR_1_2, sR_1_3, sR_1_4, sR_1_5, sR_1_6, sR_1_7, sR_1_8, sR_1_9, sT_2, sT_3, sT_4, sT_5, sT_6, sT_7, sT_8, sT_9, sT_10, sT_11, sT_12, sT_13, sT_14, sR_2_1, sR_2_2, sR_2_3, sR_2_4, sR_2_5, sR_2_6, sR_2_7, sR_2_8, sR_2_9, sR_2_10, sR_2_11, sR_2_12, sT_15, sT_16, sT_17, sT_18, sT_19, sT_20, sT_21, sT_22, sT_23, sR_15_1, sR_15_2, sR_15_3, sR_15_4, sR_15_5, sR_15_6, sR_15_7, sR_15_8, sT_24, sT_25, sT_26, sT_27, sT_28, sT_29, sR_24_1, sR_24_2, sR_24_3, sR_24_4, sR_24_5, sT_71, sT_72, sR_71_0, sR_71_1, sR_71_2, sR_71_3, sR_71_4, sT_73, sT_74, sT_75, sR_73_0, sR_73_1, sR_73_2, sR_73_3, sR_73_4, sR_73_5, sT_84, sT_85, sT_86, sT_87, sR_84_0, sR_84_1, sR_84_2, sR_84_3, sR_84_4, sR_84_5, sT_88, sT_89, sR_88_0, sT_90, sT_91, sR_90_0, c10, hi, hbt, h00, e2, h11]
      · left
        have q' : lwQ A f u P i = false := by simpa using q
        rw [q'] at e2 c2
        simp only [Bool.false_eq_true, if_false] at e2 c2
        refine ⟨([.ref 1, .int (nI f), .int x, .int v3, .int (nI P), .int (nI (i + 1))], h2), ?_, h2, bl2, rfl, Fr_trans f1 f2, d2, c2, fun m hm => ?_⟩
        · clear d d1 d2 mk mk1 f1 f2 hall
          simp (disch := first | assumption | omega) [lstp, lc_S_law_2, lb_S_law_2, lu_S_law_2, j_meth, j_out, j_rok, j_pad, lg_sl, s_seq_w, isN_inl, isN_inr, s_if, jb, x_c, x_iloc, x_aloc, x_lloc, x_bin, x_un, o_add, o_sub, o_mul, o_and, o_or, o_xor, o_shl, o_shr, o_ushr, o_max, o_min, o_i2b, o_i2c, o_i2l, o_l2i, x_fld, j_fget, x_idx, j_aget, x_len, j_alen, x_ofb, x_ite, xs_nil, xs_cons, x_callv, x_calls, s_callv, s_calls, j_recv, j_ret, j_retv, b_cmp, b_and, b_or, b_not, b_ofi, b_ite, b_true, s_skip, s_set, j_ty, j_lset, j_kill, s_inc, s_fput, j_fput, s_fop, s_aput, j_aput, j_nar, s_aop, s_ret, s_retv, s_go, s_pop, x_linc, x_finc, Value.category, if_icmp.holds, List.flatMap_cons, List.flatMap_nil, List.length_cons, List.length_append, List.length_nil, List.set_cons_succ, List.set_cons_zero, List.getElem?_cons_succ, List.getElem?_cons_zero, List.replicate, ite_and', ite_or', ite_int', nI_leI, nI_ltI, nI_eq, nI_add, nI_1, pk_mul, nI_clamp, n_in', nI_pos', nI_pos, n_m1e, n_01, n_10, sT_1, sR_1_0, sR_1_1, sR_1_2, sR_1_3, sR_1_4, sR_1_5, sR_1_6, sR_1_7, sR_1_8, sR_1_9, sT_2, sT_3, sT_4, sT_5, sT_6, sT_7, sT_8, sT_9, sT_10, sT_11, sT_12, sT_13, sT_14, sR_2_1, sR_2_2, sR_2_3, sR_2_4, sR_2_5, sR_2_6, sR_2_7, sR_2_8, sR_2_9, sR_2_10, sR_2_11, sR_2_12, sT_15, sT_16, sT_17, sT_18, sT_19, sT_20, sT_21, sT_22, sT_23, sR_15_1, sR_15_2, sR_15_3, sR_15_4, sR_15_5, sR_15_6, sR_15_7, sR_15_8, sT_24, sT_25, sT_26, sT_27, sT_28, sT_29, sR_24_1, sR_24_2, sR_24_3, sR_24_4, sR_24_5, sT_71, sT_72, sR_71_0, sR_71_1, sR_71_2, sR_71_3, sR_71_4, sT_73, sT_74, sT_75, sR_73_0, sR_73_1, sR_73_2, sR_73_3, sR_73_4, sR_73_5, sT_84, sT_85, sT_86, sT_87, sR_84_0, sR_84_1, sR_84_2, sR_84_3, sR_84_4, sR_84_5, sT_88, sT_89, sR_88_0, sT_90, sT_91, sR_90_0, c10, hi, hbt, h00, e2]
        · by_cases e : m = i
          · rw [e]; exact q'
          · exact hall m (by omega)
  · rintro st ⟨h1, bl1, rfl, f1, d1, cr1, hall⟩
    have mk1 := MK_fr mk f1 hWc
    have hs1 := mk1.1.1
    have c10 : hI h1 10 f = nI (nOf A f) := mk1.1.2.2.1.2.2.1 f hf
    refine ⟨(.inl 0, ([.ref 1, .int (nI f), .int x, .int v3, .int (nI P), .int (nI (nOf A f))], h1)), ?_, h1, bl1, f1, d1, Or.inr ⟨rfl, fst1_no hall, cr1⟩⟩
    clear d d1 mk mk1 f1 hall
    simp (disch := first | assumption | omega) [lstp, lc_S_law_2, lb_S_law_2, lu_S_law_2, j_meth, j_out, j_rok, j_pad, lg_sl, s_seq_w, isN_inl, isN_inr, s_if, jb, x_c, x_iloc, x_aloc, x_lloc, x_bin, x_un, o_add, o_sub, o_mul, o_and, o_or, o_xor, o_shl, o_shr, o_ushr, o_max, o_min, o_i2b, o_i2c, o_i2l, o_l2i, x_fld, j_fget, x_idx, j_aget, x_len, j_alen, x_ofb, x_ite, xs_nil, xs_cons, x_callv, x_calls, s_callv, s_calls, j_recv, j_ret, j_retv, b_cmp, b_and, b_or, b_not, b_ofi, b_ite, b_true, s_skip, s_set, j_ty, j_lset, j_kill, s_inc, s_fput, j_fput, s_fop, s_aput, j_aput, j_nar, s_aop, s_ret, s_retv, s_go, s_pop, x_linc, x_finc, Value.category, if_icmp.holds, List.flatMap_cons, List.flatMap_nil, List.length_cons, List.length_append, List.length_nil, List.set_cons_succ, List.set_cons_zero, List.getElem?_cons_succ, List.getElem?_cons_zero, List.replicate, ite_and', ite_or', ite_int', nI_leI, nI_ltI, nI_eq, nI_add, nI_1, pk_mul, nI_clamp, n_in', nI_pos', nI_pos, n_m1e, n_01, n_10, sT_1, sR_1_0, sR_1_1, sR_1_2, sR_1_3, sR_1_4, sR_1_5, sR_1_6, sR_1_7, sR_1_8, sR_1_9, sT_2, sT_3, sT_4, sT_5, sT_6, sT_7, sT_8, sT_9, sT_10, sT_11, sT_12, sT_13, sT_14, sR_2_1, sR_2_2, sR_2_3, sR_2_4, sR_2_5, sR_2_6, sR_2_7, sR_2_8, sR_2_9, sR_2_10, sR_2_11, sR_2_12, sT_15, sT_16, sT_17, sT_18, sT_19, sT_20, sT_21, sT_22, sT_23, sR_15_1, sR_15_2, sR_15_3, sR_15_4, sR_15_5, sR_15_6, sR_15_7, sR_15_8, sT_24, sT_25, sT_26, sT_27, sT_28, sT_29, sR_24_1, sR_24_2, sR_24_3, sR_24_4, sR_24_5, sT_71, sT_72, sR_71_0, sR_71_1, sR_71_2, sR_71_3, sR_71_4, sT_73, sT_74, sT_75, sR_73_0, sR_73_1, sR_73_2, sR_73_3, sR_73_4, sR_73_5, sT_84, sT_85, sT_86, sT_87, sR_84_0, sR_84_1, sR_84_2, sR_84_3, sR_84_4, sR_84_5, sT_88, sT_89, sR_88_0, sT_90, sT_91, sR_90_0, c10]
theorem law_row {A : AS} (w : WF A) {f P i : Nat} (u : Bool) (hP : P < 2 ^ nOf A f) (hi : i < nOf A f) (hq : lwQ A f u P i = true) : rLaw A f u (pSet A f P, bAt A f i) = lwW A f u P i := by
  unfold rLaw lwW
  cases u with
  | false => rfl
  | true =>
    simp only [if_true]
    rw [← lwR_ok w hP hi]
    have hn : lwR A f P i ≠ 0 := by
      unfold lwQ at hq
      rw [Bool.and_eq_true] at hq
      simpa using hq.2
    rw [(low_pS w (lwR_lt hP) hn).2]
theorem law_sp {A : AS} (w : WF A) (f : Nat) (u : Bool) : (∀ P, fst1 (fun P => (fst1 (lwQ A f u P) (nOf A f)).isSome) (2 ^ nOf A f) = some P → ∀ i, fst1 (lwQ A f u P) (nOf A f) = some i → sLaw A f u = some (pSet A f P, bAt A f i)) ∧ (fst1 (fun P => (fst1 (lwQ A f u P) (nOf A f)).isSome) (2 ^ nOf A f) = none → sLaw A f u = none) := by
  have h := lwF_ok w f u
  constructor
  · intro P hP i hi
    have hPl := fst1_lt hP
    unfold sLaw
    rw [h, hP]
    simp only [Option.map_some]
    rw [lwS_ok w u hPl, hi]
    rfl
  · intro hn
    unfold sLaw
    rw [h, hn]
    rfl
theorem o_S_law {A : AS} {tx : List Nat} {rw : List Int32} {h : jHp} (r : RC A tx rw h) (f x : Int32) : ∃ h', f_S_law [.ref 1, .int f, .int x] h = some (some (.int (vLaw A rw f x).1), h') ∧ RC A tx (vLaw A rw f x).2 h' ∧ FC h h' := by
  have r0 := r
  obtain ⟨mk, ⟨ca, bl, d, sp⟩, c11, ct, cr, cs⟩ := r
  have hs := mk.1.1
  have w := mk.1.2.1
  have hno := w.2.1
  have ef := e_S_hasOffice hs w c11 f
  have h11 : ((1 : Int32) = 0) = False := by decide
  unfold vLaw
  by_cases hf : j_in f (aNo A) = true
  case neg =>
    rw [if_neg (fun q => hf q.1)]
    rw [if_neg hf] at ef
    refine ⟨h, ?_, r0, FC_refl h⟩
    simp (disch := first | assumption | omega) [f_S_law, body_S_law, j_meth, j_out, j_rok, j_pad, lg_sl, s_seq_w, isN_inl, isN_inr, s_if, jb, x_c, x_iloc, x_aloc, x_lloc, x_bin, x_un, o_add, o_sub, o_mul, o_and, o_or, o_xor, o_shl, o_shr, o_ushr, o_max, o_min, o_i2b, o_i2c, o_i2l, o_l2i, x_fld, j_fget, x_idx, j_aget, x_len, j_alen, x_ofb, x_ite, xs_nil, xs_cons, x_callv, x_calls, s_callv, s_calls, j_recv, j_ret, j_retv, b_cmp, b_and, b_or, b_not, b_ofi, b_ite, b_true, s_skip, s_set, j_ty, j_lset, j_kill, s_inc, s_fput, j_fput, s_fop, s_aput, j_aput, j_nar, s_aop, s_ret, s_retv, s_go, s_pop, x_linc, x_finc, Value.category, if_icmp.holds, List.flatMap_cons, List.flatMap_nil, List.length_cons, List.length_append, List.length_nil, List.set_cons_succ, List.set_cons_zero, List.getElem?_cons_succ, List.getElem?_cons_zero, List.replicate, ite_and', ite_or', ite_int', nI_leI, nI_ltI, nI_eq, nI_add, nI_1, pk_mul, nI_clamp, n_in', nI_pos', nI_pos, n_m1e, n_01, n_10, sT_1, sR_1_0, sR_1_1, sR_1_2, sR_1_3, sR_1_4, sR_1_5, sR_1_6, sR_1_7, sR_1_8, sR_1_9, sT_2, sT_3, sT_4, sT_5, sT_6, sT_7, sT_8, sT_9, sT_10, sT_11, sT_12, sT_13, sT_14, sR_2_1, sR_2_2, sR_2_3, sR_2_4, sR_2_5, sR_2_6, sR_2_7, sR_2_8, sR_2_9, sR_2_10, sR_2_11, sR_2_12, sT_15, sT_16, sT_17, sT_18, sT_19, sT_20, sT_21, sT_22, sT_23, sR_15_1, sR_15_2, sR_15_3, sR_15_4, sR_15_5, sR_15_6, sR_15_7, sR_15_8, sT_24, sT_25, sT_26, sT_27, sT_28, sT_29, sR_24_1, sR_24_2, sR_24_3, sR_24_4, sR_24_5, sT_71, sT_72, sR_71_0, sR_71_1, sR_71_2, sR_71_3, sR_71_4, sT_73, sT_74, sT_75, sR_73_0, sR_73_1, sR_73_2, sR_73_3, sR_73_4, sR_73_5, sT_84, sT_85, sT_86, sT_87, sR_84_0, sR_84_1, sR_84_2, sR_84_3, sR_84_4, sR_84_5, sT_88, sT_89, sR_88_0, sT_90, sT_91, sR_90_0, ef]
  rw [if_pos hf] at ef
  by_cases hx : x = nI 0 ∨ x = nI 1
  case neg =>
    rw [if_neg (fun q => hx q.2)]
    refine ⟨h, ?_, r0, FC_refl h⟩
    by_cases z1 : x < 0
    · simp (disch := first | assumption | omega) [f_S_law, body_S_law, j_meth, j_out, j_rok, j_pad, lg_sl, s_seq_w, isN_inl, isN_inr, s_if, jb, x_c, x_iloc, x_aloc, x_lloc, x_bin, x_un, o_add, o_sub, o_mul, o_and, o_or, o_xor, o_shl, o_shr, o_ushr, o_max, o_min, o_i2b, o_i2c, o_i2l, o_l2i, x_fld, j_fget, x_idx, j_aget, x_len, j_alen, x_ofb, x_ite, xs_nil, xs_cons, x_callv, x_calls, s_callv, s_calls, j_recv, j_ret, j_retv, b_cmp, b_and, b_or, b_not, b_ofi, b_ite, b_true, s_skip, s_set, j_ty, j_lset, j_kill, s_inc, s_fput, j_fput, s_fop, s_aput, j_aput, j_nar, s_aop, s_ret, s_retv, s_go, s_pop, x_linc, x_finc, Value.category, if_icmp.holds, List.flatMap_cons, List.flatMap_nil, List.length_cons, List.length_append, List.length_nil, List.set_cons_succ, List.set_cons_zero, List.getElem?_cons_succ, List.getElem?_cons_zero, List.replicate, ite_and', ite_or', ite_int', nI_leI, nI_ltI, nI_eq, nI_add, nI_1, pk_mul, nI_clamp, n_in', nI_pos', nI_pos, n_m1e, n_01, n_10, sT_1, sR_1_0, sR_1_1, sR_1_2, sR_1_3, sR_1_4, sR_1_5, sR_1_6, sR_1_7, sR_1_8, sR_1_9, sT_2, sT_3, sT_4, sT_5, sT_6, sT_7, sT_8, sT_9, sT_10, sT_11, sT_12, sT_13, sT_14, sR_2_1, sR_2_2, sR_2_3, sR_2_4, sR_2_5, sR_2_6, sR_2_7, sR_2_8, sR_2_9, sR_2_10, sR_2_11, sR_2_12, sT_15, sT_16, sT_17, sT_18, sT_19, sT_20, sT_21, sT_22, sT_23, sR_15_1, sR_15_2, sR_15_3, sR_15_4, sR_15_5, sR_15_6, sR_15_7, sR_15_8, sT_24, sT_25, sT_26, sT_27, sT_28, sT_29, sR_24_1, sR_24_2, sR_24_3, sR_24_4, sR_24_5, sT_71, sT_72, sR_71_0, sR_71_1, sR_71_2, sR_71_3, sR_71_4, sT_73, sT_74, sT_75, sR_73_0, sR_73_1, sR_73_2, sR_73_3, sR_73_4, sR_73_5, sT_84, sT_85, sT_86, sT_87, sR_84_0, sR_84_1, sR_84_2, sR_84_3, sR_84_4, sR_84_5, sT_88, sT_89, sR_88_0, sT_90, sT_91, sR_90_0, ef, h11, z1]
    · have z2 : nI 1 < x := by
        rcases n_of x with ⟨k, hk, rfl⟩ | hneg
        · rw [nI_ltI (by omega) hk]
          have h0 : k ≠ 0 := fun e => hx (Or.inl (by rw [e]))
          have h1 : k ≠ 1 := fun e => hx (Or.inr (by rw [e]))
          omega
        · exact absurd hneg z1
      simp (disch := first | assumption | omega) [f_S_law, body_S_law, j_meth, j_out, j_rok, j_pad, lg_sl, s_seq_w, isN_inl, isN_inr, s_if, jb, x_c, x_iloc, x_aloc, x_lloc, x_bin, x_un, o_add, o_sub, o_mul, o_and, o_or, o_xor, o_shl, o_shr, o_ushr, o_max, o_min, o_i2b, o_i2c, o_i2l, o_l2i, x_fld, j_fget, x_idx, j_aget, x_len, j_alen, x_ofb, x_ite, xs_nil, xs_cons, x_callv, x_calls, s_callv, s_calls, j_recv, j_ret, j_retv, b_cmp, b_and, b_or, b_not, b_ofi, b_ite, b_true, s_skip, s_set, j_ty, j_lset, j_kill, s_inc, s_fput, j_fput, s_fop, s_aput, j_aput, j_nar, s_aop, s_ret, s_retv, s_go, s_pop, x_linc, x_finc, Value.category, if_icmp.holds, List.flatMap_cons, List.flatMap_nil, List.length_cons, List.length_append, List.length_nil, List.set_cons_succ, List.set_cons_zero, List.getElem?_cons_succ, List.getElem?_cons_zero, List.replicate, ite_and', ite_or', ite_int', nI_leI, nI_ltI, nI_eq, nI_add, nI_1, pk_mul, nI_clamp, n_in', nI_pos', nI_pos, n_m1e, n_01, n_10, sT_1, sR_1_0, sR_1_1, sR_1_2, sR_1_3, sR_1_4, sR_1_5, sR_1_6, sR_1_7, sR_1_8, sR_1_9, sT_2, sT_3, sT_4, sT_5, sT_6, sT_7, sT_8, sT_9, sT_10, sT_11, sT_12, sT_13, sT_14, sR_2_1, sR_2_2, sR_2_3, sR_2_4, sR_2_5, sR_2_6, sR_2_7, sR_2_8, sR_2_9, sR_2_10, sR_2_11, sR_2_12, sT_15, sT_16, sT_17, sT_18, sT_19, sT_20, sT_21, sT_22, sT_23, sR_15_1, sR_15_2, sR_15_3, sR_15_4, sR_15_5, sR_15_6, sR_15_7, sR_15_8, sT_24, sT_25, sT_26, sT_27, sT_28, sT_29, sR_24_1, sR_24_2, sR_24_3, sR_24_4, sR_24_5, sT_71, sT_72, sR_71_0, sR_71_1, sR_71_2, sR_71_3, sR_71_4, sT_73, sT_74, sT_75, sR_73_0, sR_73_1, sR_73_2, sR_73_3, sR_73_4, sR_73_5, sT_84, sT_85, sT_86, sT_87, sR_84_0, sR_84_1, sR_84_2, sR_84_3, sR_84_4, sR_84_5, sT_88, sT_89, sR_88_0, sT_90, sT_91, sR_90_0, ef, h11, z1, z2]
  rw [if_pos ⟨hf, hx⟩]
  obtain ⟨f, hf', rfl⟩ := j_in_ex hf (by omega)
  rw [nI_clamp (by omega)]
  have hf4 : f < 4 := by omega
  have h8 := nOf_le w f
  have hp8 : 2 ^ nOf A f ≤ 256 := Nat.pow_le_pow_right (n := 2) (by decide) h8
  have hxu : (x = 0) = (decide (x = nI 0) = true) := by
    rw [nI_0]
    simp
  have hx0 : ¬ x < 0 := by rcases hx with rfl | rfl <;> decide
  have hx1 : ¬ nI 1 < x := by rcases hx with rfl | rfl <;> decide
  generalize decide (x = nI 0) = u at *
  have c10 : hI h 10 f = nI (nOf A f) := mk.1.2.2.1.2.2.1 f hf4
  have hsn := n_shl 1 (k := nOf A f) (by omega)
  rw [Nat.one_mul] at hsn
  obtain ⟨sp1, sp2⟩ := law_sp w f u
  have hWc : ∀ a j, Wlw f a j → ¬ cC a j := fun a j q => okW_cC (Wlw_ok hf4 q)
  have hL := loop_wp (lb := 1) (lc := 2) (c := lc_S_law_1) (b := lb_S_law_1) (u := lu_S_law_1) (2 ^ nOf A f)
    (fun P st => ∃ h' bl' v, st = ([.ref 1, .int (nI f), .int x, .int (nI (2 ^ nOf A f)), .int (nI P), v], h') ∧ Fr (Wlw f) h h' ∧ DK A ca bl' h' ∧ CRw rw h' ∧ ∀ m, m < P → (fst1 (lwQ A f u m) (nOf A f)).isSome = false)
    (fun r => ∃ h' bl', Fr (Wlw f) h h' ∧ DK A ca bl' h' ∧ ((∃ q L, r = (.inr (some (.int (nI 0))), (L, h')) ∧ sLaw A f u = some q ∧ CRw (rLaw A f u q) h') ∨ (∃ L, r = (.inl 0, (L, h')) ∧ sLaw A f u = none ∧ CRw rw h')))
    ?_ ?_ ([.ref 1, .int (nI f), .int x, .int (nI (2 ^ nOf A f)), .int (nI 0), .null], h) ⟨h, bl, _, rfl, Fr_refl _ _, d, cr, fun m hm => by omega⟩
  · obtain ⟨q, e, h1, bl1, f1, d1, ⟨z, L, rfl, s1, c1⟩ | ⟨L, rfl, s1, c1⟩⟩ := hL
    · rw [s1]
      refine ⟨h1, ?_, RC_mk r0 d sp f1 (fun a j q => Wlw_ok hf4 q) d1 c1⟩
      simp only [nI_0] at e
      clear d d1 f1 mk
      generalize 2 ^ nOf A f = n2 at *
      simp (disch := first | assumption | omega) [f_S_law, body_S_law, j_meth, j_out, j_rok, j_pad, lg_sl, s_seq_w, isN_inl, isN_inr, s_if, jb, x_c, x_iloc, x_aloc, x_lloc, x_bin, x_un, o_add, o_sub, o_mul, o_and, o_or, o_xor, o_shl, o_shr, o_ushr, o_max, o_min, o_i2b, o_i2c, o_i2l, o_l2i, x_fld, j_fget, x_idx, j_aget, x_len, j_alen, x_ofb, x_ite, xs_nil, xs_cons, x_callv, x_calls, s_callv, s_calls, j_recv, j_ret, j_retv, b_cmp, b_and, b_or, b_not, b_ofi, b_ite, b_true, s_skip, s_set, j_ty, j_lset, j_kill, s_inc, s_fput, j_fput, s_fop, s_aput, j_aput, j_nar, s_aop, s_ret, s_retv, s_go, s_pop, x_linc, x_finc, Value.category, if_icmp.holds, List.flatMap_cons, List.flatMap_nil, List.length_cons, List.length_append, List.length_nil, List.set_cons_succ, List.set_cons_zero, List.getElem?_cons_succ, List.getElem?_cons_zero, List.replicate, ite_and', ite_or', ite_int', nI_leI, nI_ltI, nI_eq, nI_add, nI_1, pk_mul, nI_clamp, n_in', nI_pos', nI_pos, n_m1e, n_01, n_10, sT_1, sR_1_0, sR_1_1, sR_1_2, sR_1_3, sR_1_4, sR_1_5, sR_1_6, sR_1_7, sR_1_8, sR_1_9, sT_2, sT_3, sT_4, sT_5, sT_6, sT_7, sT_8, sT_9, sT_10, sT_11, sT_12, sT_13, sT_14, sR_2_1, sR_2_2, sR_2_3, sR_2_4, sR_2_5, sR_2_6, sR_2_7, sR_2_8, sR_2_9, sR_2_10, sR_2_11, sR_2_12, sT_15, sT_16, sT_17, sT_18, sT_19, sT_20, sT_21, sT_22, sT_23, sR_15_1, sR_15_2, sR_15_3, sR_15_4, sR_15_5, sR_15_6, sR_15_7, sR_15_8, sT_24, sT_25, sT_26, sT_27, sT_28, sT_29, sR_24_1, sR_24_2, sR_24_3, sR_24_4, sR_24_5, sT_71, sT_72, sR_71_0, sR_71_1, sR_71_2, sR_71_3, sR_71_4, sT_73, sT_74, sT_75, sR_73_0, sR_73_1, sR_73_2, sR_73_3, sR_73_4, sR_73_5, sT_84, sT_85, sT_86, sT_87, sR_84_0, sR_84_1, sR_84_2, sR_84_3, sR_84_4, sR_84_5, sT_88, sT_89, sR_88_0, sT_90, sT_91, sR_90_0, ef, h11, hx0, hx1, c10, hsn, nI_0, e]
    · rw [s1]
      refine ⟨h1, ?_, RC_mk r0 d sp f1 (fun a j q => Wlw_ok hf4 q) d1 c1⟩
      simp only [nI_0] at e
      clear d d1 f1 mk
      generalize 2 ^ nOf A f = n2 at *
      simp (disch := first | assumption | omega) [f_S_law, body_S_law, j_meth, j_out, j_rok, j_pad, lg_sl, s_seq_w, isN_inl, isN_inr, s_if, jb, x_c, x_iloc, x_aloc, x_lloc, x_bin, x_un, o_add, o_sub, o_mul, o_and, o_or, o_xor, o_shl, o_shr, o_ushr, o_max, o_min, o_i2b, o_i2c, o_i2l, o_l2i, x_fld, j_fget, x_idx, j_aget, x_len, j_alen, x_ofb, x_ite, xs_nil, xs_cons, x_callv, x_calls, s_callv, s_calls, j_recv, j_ret, j_retv, b_cmp, b_and, b_or, b_not, b_ofi, b_ite, b_true, s_skip, s_set, j_ty, j_lset, j_kill, s_inc, s_fput, j_fput, s_fop, s_aput, j_aput, j_nar, s_aop, s_ret, s_retv, s_go, s_pop, x_linc, x_finc, Value.category, if_icmp.holds, List.flatMap_cons, List.flatMap_nil, List.length_cons, List.length_append, List.length_nil, List.set_cons_succ, List.set_cons_zero, List.getElem?_cons_succ, List.getElem?_cons_zero, List.replicate, ite_and', ite_or', ite_int', nI_leI, nI_ltI, nI_eq, nI_add, nI_1, pk_mul, nI_clamp, n_in', nI_pos', nI_pos, n_m1e, n_01, n_10, sT_1, sR_1_0, sR_1_1, sR_1_2, sR_1_3, sR_1_4, sR_1_5, sR_1_6, sR_1_7, sR_1_8, sR_1_9, sT_2, sT_3, sT_4, sT_5, sT_6, sT_7, sT_8, sT_9, sT_10, sT_11, sT_12, sT_13, sT_14, sR_2_1, sR_2_2, sR_2_3, sR_2_4, sR_2_5, sR_2_6, sR_2_7, sR_2_8, sR_2_9, sR_2_10, sR_2_11, sR_2_12, sT_15, sT_16, sT_17, sT_18, sT_19, sT_20, sT_21, sT_22, sT_23, sR_15_1, sR_15_2, sR_15_3, sR_15_4, sR_15_5, sR_15_6, sR_15_7, sR_15_8, sT_24, sT_25, sT_26, sT_27, sT_28, sT_29, sR_24_1, sR_24_2, sR_24_3, sR_24_4, sR_24_5, sT_71, sT_72, sR_71_0, sR_71_1, sR_71_2, sR_71_3, sR_71_4, sT_73, sT_74, sT_75, sR_73_0, sR_73_1, sR_73_2, sR_73_3, sR_73_4, sR_73_5, sT_84, sT_85, sT_86, sT_87, sR_84_0, sR_84_1, sR_84_2, sR_84_3, sR_84_4, sR_84_5, sT_88, sT_89, sR_88_0, sT_90, sT_91, sR_90_0, ef, h11, hx0, hx1, c10, hsn, nI_0, e, n_e1]
  · rintro P st hP ⟨h1, bl1, v, rfl, f1, d1, cr1, hall⟩
    have mk1 := MK_fr mk f1 hWc
    have hs1 := mk1.1.1
    obtain ⟨q, h2, bl2, e2, f2, d2, ⟨i, L, rfl, fi2, c2⟩ | ⟨rfl, fi2, c2⟩⟩ := e_S_law_2 mk1 d1 cr1 u hxu hf4 hP (nI (2 ^ nOf A f))
    · right
      have hPs := fst1_of (p := fun P => (fst1 (lwQ A f u P) (nOf A f)).isSome) hP (by simp only [fi2]; rfl) hall
      have s1 := sp1 P hPs i fi2
      have hil := fst1_lt fi2
      have hiq := (fst1_some fi2).2.1
      refine ⟨(.inr (some (.int (nI 0))), (L, h2)), ?_, h2, bl2, Fr_trans f1 f2, d2, Or.inl ⟨_, L, rfl, s1, by rw [law_row w u hP hil hiq]; exact c2⟩⟩
      simp only [nI_0] at e2
      clear d d1 d2 mk mk1 f1 f2 hall hPs sp1 sp2
      generalize 2 ^ nOf A f = n2 at *
      simp (disch := first | assumption | omega) [lstp, lc_S_law_1, lb_S_law_1, lu_S_law_1, j_meth, j_out, j_rok, j_pad, lg_sl, s_seq_w, isN_inl, isN_inr, s_if, jb, x_c, x_iloc, x_aloc, x_lloc, x_bin, x_un, o_add, o_sub, o_mul, o_and, o_or, o_xor, o_shl, o_shr, o_ushr, o_max, o_min, o_i2b, o_i2c, o_i2l, o_l2i, x_fld, j_fget, x_idx, j_aget, x_len, j_alen, x_ofb, x_ite, xs_nil, xs_cons, x_callv, x_calls, s_callv, s_calls, j_recv, j_ret, j_retv, b_cmp, b_and, b_or, b_not, b_ofi, b_ite, b_true, s_skip, s_set, j_ty, j_lset, j_kill, s_inc, s_fput, j_fput, s_fop, s_aput, j_aput, j_nar, s_aop, s_ret, s_retv, s_go, s_pop, x_linc, x_finc, Value.category, if_icmp.holds, List.flatMap_cons, List.flatMap_nil, List.length_cons, List.length_append, List.length_nil, List.set_cons_succ, List.set_cons_zero, List.getElem?_cons_succ, List.getElem?_cons_zero, List.replicate, ite_and', ite_or', ite_int', nI_leI, nI_ltI, nI_eq, nI_add, nI_1, pk_mul, nI_clamp, n_in', nI_pos', nI_pos, n_m1e, n_01, n_10, sT_1, sR_1_0, sR_1_1, sR_1_2, sR_1_3, sR_1_4, sR_1_5, sR_1_6, sR_1_7, sR_1_8, sR_1_9, sT_2, sT_3, sT_4, sT_5, sT_6, sT_7, sT_8, sT_9, sT_10, sT_11, sT_12, sT_13, sT_14, sR_2_1, sR_2_2, sR_2_3, sR_2_4, sR_2_5, sR_2_6, sR_2_7, sR_2_8, sR_2_9, sR_2_10, sR_2_11, sR_2_12, sT_15, sT_16, sT_17, sT_18, sT_19, sT_20, sT_21, sT_22, sT_23, sR_15_1, sR_15_2, sR_15_3, sR_15_4, sR_15_5, sR_15_6, sR_15_7, sR_15_8, sT_24, sT_25, sT_26, sT_27, sT_28, sT_29, sR_24_1, sR_24_2, sR_24_3, sR_24_4, sR_24_5, sT_71, sT_72, sR_71_0, sR_71_1, sR_71_2, sR_71_3, sR_71_4, sT_73, sT_74, sT_75, sR_73_0, sR_73_1, sR_73_2, sR_73_3, sR_73_4, sR_73_5, sT_84, sT_85, sT_86, sT_87, sR_84_0, sR_84_1, sR_84_2, sR_84_3, sR_84_4, sR_84_5, sT_88, sT_89, sR_88_0, sT_90, sT_91, sR_90_0, hP, nI_0, e2]
    · left
      refine ⟨([.ref 1, .int (nI f), .int x, .int (nI (2 ^ nOf A f)), .int (nI (P + 1)), .int (nI (nOf A f))], h2), ?_, h2, bl2, _, rfl, Fr_trans f1 f2, d2, c2, fun m hm => ?_⟩
      · simp only [nI_0] at e2
        clear d d1 d2 mk mk1 f1 f2 hall sp1 sp2
        generalize 2 ^ nOf A f = n2 at *
        simp (disch := first | assumption | omega) [lstp, lc_S_law_1, lb_S_law_1, lu_S_law_1, j_meth, j_out, j_rok, j_pad, lg_sl, s_seq_w, isN_inl, isN_inr, s_if, jb, x_c, x_iloc, x_aloc, x_lloc, x_bin, x_un, o_add, o_sub, o_mul, o_and, o_or, o_xor, o_shl, o_shr, o_ushr, o_max, o_min, o_i2b, o_i2c, o_i2l, o_l2i, x_fld, j_fget, x_idx, j_aget, x_len, j_alen, x_ofb, x_ite, xs_nil, xs_cons, x_callv, x_calls, s_callv, s_calls, j_recv, j_ret, j_retv, b_cmp, b_and, b_or, b_not, b_ofi, b_ite, b_true, s_skip, s_set, j_ty, j_lset, j_kill, s_inc, s_fput, j_fput, s_fop, s_aput, j_aput, j_nar, s_aop, s_ret, s_retv, s_go, s_pop, x_linc, x_finc, Value.category, if_icmp.holds, List.flatMap_cons, List.flatMap_nil, List.length_cons, List.length_append, List.length_nil, List.set_cons_succ, List.set_cons_zero, List.getElem?_cons_succ, List.getElem?_cons_zero, List.replicate, ite_and', ite_or', ite_int', nI_leI, nI_ltI, nI_eq, nI_add, nI_1, pk_mul, nI_clamp, n_in', nI_pos', nI_pos, n_m1e, n_01, n_10, sT_1, sR_1_0, sR_1_1, sR_1_2, sR_1_3, sR_1_4, sR_1_5, sR_1_6, sR_1_7, sR_1_8, sR_1_9, sT_2, sT_3, sT_4, sT_5, sT_6, sT_7, sT_8, sT_9, sT_10, sT_11, sT_12, sT_13, sT_14, sR_2_1, sR_2_2, sR_2_3, sR_2_4, sR_2_5, sR_2_6, sR_2_7, sR_2_8, sR_2_9, sR_2_10, sR_2_11, sR_2_12, sT_15, sT_16, sT_17, sT_18, sT_19, sT_20, sT_21, sT_22, sT_23, sR_15_1, sR_15_2, sR_15_3, sR_15_4, sR_15_5, sR_15_6, sR_15_7, sR_15_8, sT_24, sT_25, sT_26, sT_27, sT_28, sT_29, sR_24_1, sR_24_2, sR_24_3, sR_24_4, sR_24_5, sT_71, sT_72, sR_71_0, sR_71_1, sR_71_2, sR_71_3, sR_71_4, sT_73, sT_74, sT_75, sR_73_0, sR_73_1, sR_73_2, sR_73_3, sR_73_4, sR_73_5, sT_84, sT_85, sT_86, sT_87, sR_84_0, sR_84_1, sR_84_2, sR_84_3, sR_84_4, sR_84_5, sT_88, sT_89, sR_88_0, sT_90, sT_91, sR_90_0, hP, nI_0, e2]
      · by_cases e : m = P
        · rw [e, fi2]; rfl
        · exact hall m (by omega)
  · rintro st ⟨h1, bl1, v, rfl, f1, d1, cr1, hall⟩
    have hs1 := Fr_shape hs f1
    refine ⟨(.inl 0, ([.ref 1, .int (nI f), .int x, .int (nI (2 ^ nOf A f)), .int (nI (2 ^ nOf A f)), v], h1)), ?_, h1, bl1, f1, d1, Or.inr ⟨_, rfl, sp2 (fst1_no hall), cr1⟩⟩
    clear d d1 mk f1 hall sp1 sp2
    generalize 2 ^ nOf A f = n2 at *
    simp (disch := first | assumption | omega) [lstp, lc_S_law_1, lb_S_law_1, lu_S_law_1, j_meth, j_out, j_rok, j_pad, lg_sl, s_seq_w, isN_inl, isN_inr, s_if, jb, x_c, x_iloc, x_aloc, x_lloc, x_bin, x_un, o_add, o_sub, o_mul, o_and, o_or, o_xor, o_shl, o_shr, o_ushr, o_max, o_min, o_i2b, o_i2c, o_i2l, o_l2i, x_fld, j_fget, x_idx, j_aget, x_len, j_alen, x_ofb, x_ite, xs_nil, xs_cons, x_callv, x_calls, s_callv, s_calls, j_recv, j_ret, j_retv, b_cmp, b_and, b_or, b_not, b_ofi, b_ite, b_true, s_skip, s_set, j_ty, j_lset, j_kill, s_inc, s_fput, j_fput, s_fop, s_aput, j_aput, j_nar, s_aop, s_ret, s_retv, s_go, s_pop, x_linc, x_finc, Value.category, if_icmp.holds, List.flatMap_cons, List.flatMap_nil, List.length_cons, List.length_append, List.length_nil, List.set_cons_succ, List.set_cons_zero, List.getElem?_cons_succ, List.getElem?_cons_zero, List.replicate, ite_and', ite_or', ite_int', nI_leI, nI_ltI, nI_eq, nI_add, nI_1, pk_mul, nI_clamp, n_in', nI_pos', nI_pos, n_m1e, n_01, n_10, sT_1, sR_1_0, sR_1_1, sR_1_2, sR_1_3, sR_1_4, sR_1_5, sR_1_6, sR_1_7, sR_1_8, sR_1_9, sT_2, sT_3, sT_4, sT_5, sT_6, sT_7, sT_8, sT_9, sT_10, sT_11, sT_12, sT_13, sT_14, sR_2_1, sR_2_2, sR_2_3, sR_2_4, sR_2_5, sR_2_6, sR_2_7, sR_2_8, sR_2_9, sR_2_10, sR_2_11, sR_2_12, sT_15, sT_16, sT_17, sT_18, sT_19, sT_20, sT_21, sT_22, sT_23, sR_15_1, sR_15_2, sR_15_3, sR_15_4, sR_15_5, sR_15_6, sR_15_7, sR_15_8, sT_24, sT_25, sT_26, sT_27, sT_28, sT_29, sR_24_1, sR_24_2, sR_24_3, sR_24_4, sR_24_5, sT_71, sT_72, sR_71_0, sR_71_1, sR_71_2, sR_71_3, sR_71_4, sT_73, sT_74, sT_75, sR_73_0, sR_73_1, sR_73_2, sR_73_3, sR_73_4, sR_73_5, sT_84, sT_85, sT_86, sT_87, sR_84_0, sR_84_1, sR_84_2, sR_84_3, sR_84_4, sR_84_5, sT_88, sT_89, sR_88_0, sT_90, sT_91, sR_90_0]
