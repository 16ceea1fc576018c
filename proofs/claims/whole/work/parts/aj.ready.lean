/-! the tables of a Desk: ready -/
def Wt7 (k a _j : Nat) : Prop := a = dA k + 7
theorem Wt7_Wdk {k a j : Nat} (h : Wt7 k a j) : Wdk k a j := Or.inr (Or.inl h)
/-- one level's cells alone -/
def Wtl (k l a j : Nat) : Prop := a = dA k + 7 ∧ 256 * l ≤ j ∧ j < 256 * l + 256
theorem Wtl_Wdk {k l a j : Nat} (h : Wtl k l a j) : Wdk k a j := Or.inr (Or.inl h.1)
theorem e_D_ready_1 {A : AS} {h : jHp} (x : CX A h) {k a l : Nat} (hk : k < 4) (d : CD0 A k a h) (hl : l < 4) (cw : ∀ P, P < 2 ^ nOf A k → hI h (dA k + 8) P = nI (wgt A k P)) : ∃ h', s_loop 1 2 lc_D_ready_1 lb_D_ready_1 lu_D_ready_1 ([.ref (dA k), .int (nI l), .int (nI (256 * l)), .int (nI (2 ^ nOf A k)), .int (nI (cMost (chD A k) + lv A k l)), .int (nI 0)], h) = some (.inl 0, ([.ref (dA k), .int (nI l), .int (nI (256 * l)), .int (nI (2 ^ nOf A k)), .int (nI (cMost (chD A k) + lv A k l)), .int (nI (2 ^ nOf A k))], h')) ∧ Fr (Wtl k l) h h' ∧ ∀ Q, Q < 2 ^ nOf A k → hI h' (dA k + 7) (256 * l + Q) = nI (tP A k l Q) := by
  have w := x.2.1
  have h8 := nOf_le w k
  have hp8 : 2 ^ nOf A k ≤ 256 := Nat.pow_le_pow_right (n := 2) (by decide) h8
  have hm := lv_le w k (l := l)
  have hL := loop_wp (lb := 1) (lc := 2) (c := lc_D_ready_1) (b := lb_D_ready_1) (u := lu_D_ready_1) (2 ^ nOf A k)
    (fun i st => ∃ h', st = ([.ref (dA k), .int (nI l), .int (nI (256 * l)), .int (nI (2 ^ nOf A k)), .int (nI (cMost (chD A k) + lv A k l)), .int (nI i)], h') ∧ Fr (Wtl k l) h h' ∧ ∀ Q, Q < i → hI h' (dA k + 7) (256 * l + Q) = nI (tP A k l Q))
    (fun r => ∃ h', r = (.inl 0, ([.ref (dA k), .int (nI l), .int (nI (256 * l)), .int (nI (2 ^ nOf A k)), .int (nI (cMost (chD A k) + lv A k l)), .int (nI (2 ^ nOf A k))], h')) ∧ Fr (Wtl k l) h h' ∧ ∀ Q, Q < 2 ^ nOf A k → hI h' (dA k + 7) (256 * l + Q) = nI (tP A k l Q))
    ?_ ?_ _ ⟨h, rfl, Fr_refl _ _, fun Q hQ => by omega⟩
  · obtain ⟨r, e, h', rfl, f, c⟩ := hL
    exact ⟨h', e, f, c⟩
  · rintro i st hi ⟨h1, rfl, f1, c1⟩
    left
    have hW : ∀ a j, Wtl k l a j → ¬ cC a j := fun a j q => Wdk_cC hk (Wtl_Wdk q)
    have x1 := CX_fr x f1 hW
    have d1 := CD0_fr hk d f1 hW
    have hs1 := x1.1
    obtain ⟨t1, r1, r2, r4, r5, r6, t7, t8, t9, -⟩ := DSh_of hs1 hk
    have n7 : dA k + 7 ≠ 0 := by omega
    have ea := e_D_isAllowed x1 (P := i) (m := cMost (chD A k) + lv A k l) hk d1 (by omega) (by omega)
    have ef := e_D_firstWithin x1 hk d1 hl hi (fun P hP => by rw [Fr_I f1 (by unfold Wtl; omega)]; exact cw P hP) c1
    refine ⟨([.ref (dA k), .int (nI l), .int (nI (256 * l)), .int (nI (2 ^ nOf A k)), .int (nI (cMost (chD A k) + lv A k l)), .int (nI (i + 1))], hSetI h1 (dA k + 7) (256 * l + i) (nI (tP A k l i))), ?_, _, rfl, Fr_trans f1 (Fr_set _ ⟨rfl, by omega, by omega⟩), fun Q hQ => ?_⟩
    · have hsf := tP_self w (l := l) hi
      have hfw := fwN_ok w (l := l) hi
      have hko : kAlw A k i (cMost (chD A k) + lv A k l) = kOk A k l i := rfl
      rw [hko] at ea
      have h10 : ((1 : Int32) = 0) = False := by decide
      clear c1 cw x1 d1 f1 hko
      generalize tP A k l i = T at *
      generalize fwN A k l i (nOf A k) = F at *
      generalize cMost (chD A k) + lv A k l = m at *
      generalize 2 ^ nOf A k = n2 at *
      generalize dA k + 7 = D7 at *
      generalize dA k = D at *
      cases hq : kOk A k l i with
      | true =>
        have := hsf.mpr hq
        subst this
        rw [hq] at ea
        simp only [if_true] at ea
        simp (disch := first | assumption | omega) [lstp, lc_D_ready_1, lb_D_ready_1, lu_D_ready_1, j_meth, j_out, j_rok, j_pad, lg_sl, s_seq_w, isN_inl, isN_inr, s_if, jb, x_c, x_iloc, x_aloc, x_lloc, x_bin, x_un, o_add, o_sub, o_mul, o_and, o_or, o_xor, o_shl, o_shr, o_ushr, o_max, o_min, o_i2b, o_i2c, o_i2l, o_l2i, x_fld, j_fget, x_idx, j_aget, x_len, j_alen, x_ofb, x_ite, xs_nil, xs_cons, x_callv, x_calls, s_callv, s_calls, j_recv, j_ret, j_retv, b_cmp, b_and, b_or, b_not, b_ofi, b_ite, b_true, s_skip, s_set, j_ty, j_lset, j_kill, s_inc, s_fput, j_fput, s_fop, s_aput, j_aput, j_nar, s_aop, s_ret, s_retv, s_go, s_pop, x_linc, x_finc, Value.category, if_icmp.holds, List.flatMap_cons, List.flatMap_nil, List.length_cons, List.length_append, List.length_nil, List.set_cons_succ, List.set_cons_zero, List.getElem?_cons_succ, List.getElem?_cons_zero, List.replicate, ite_and', ite_or', ite_int', nI_leI, nI_ltI, nI_eq, nI_add, nI_1, pk_mul, nI_clamp, n_in', nI_pos', nI_pos, n_m1e, n_01, n_10, sT_1, sR_1_0, sR_1_1, sR_1_2, sR_1_3, sR_1_4, sR_1_5, sR_1_6, sR_1_7, sR_1_8, sR_1_9, sT_2, sT_3, sT_4, sT_5, sT_6, sT_7, sT_8, sT_9, sT_10, sT_11, sT_12, sT_13, sT_14, sR_2_1, sR_2_2, sR_2_3, sR_2_4, sR_2_5, sR_2_6, sR_2_7, sR_2_8, sR_2_9, sR_2_10, sR_2_11, sR_2_12, sT_15, sT_16, sT_17, sT_18, sT_19, sT_20, sT_21, sT_22, sT_23, sR_15_1, sR_15_2, sR_15_3, sR_15_4, sR_15_5, sR_15_6, sR_15_7, sR_15_8, sT_24, sT_25, sT_26, sT_27, sT_28, sT_29, sR_24_1, sR_24_2, sR_24_3, sR_24_4, sR_24_5, sT_71, sT_72, sR_71_0, sR_71_1, sR_71_2, sR_71_3, sR_71_4, sT_73, sT_74, sT_75, sR_73_0, sR_73_1, sR_73_2, sR_73_3, sR_73_4, sR_73_5, sT_84, sT_85, sT_86, sT_87, sR_84_0, sR_84_1, sR_84_2, sR_84_3, sR_84_4, sR_84_5, sT_88, sT_89, sR_88_0, sT_90, sT_91, sR_90_0, hi, ea, h10, t1, r4, n7, t7]
      | false =>
        have := hfw hq
        subst this
        rw [hq] at ea
        simp only [Bool.false_eq_true, if_false] at ea
        simp (disch := first | assumption | omega) [lstp, lc_D_ready_1, lb_D_ready_1, lu_D_ready_1, j_meth, j_out, j_rok, j_pad, lg_sl, s_seq_w, isN_inl, isN_inr, s_if, jb, x_c, x_iloc, x_aloc, x_lloc, x_bin, x_un, o_add, o_sub, o_mul, o_and, o_or, o_xor, o_shl, o_shr, o_ushr, o_max, o_min, o_i2b, o_i2c, o_i2l, o_l2i, x_fld, j_fget, x_idx, j_aget, x_len, j_alen, x_ofb, x_ite, xs_nil, xs_cons, x_callv, x_calls, s_callv, s_calls, j_recv, j_ret, j_retv, b_cmp, b_and, b_or, b_not, b_ofi, b_ite, b_true, s_skip, s_set, j_ty, j_lset, j_kill, s_inc, s_fput, j_fput, s_fop, s_aput, j_aput, j_nar, s_aop, s_ret, s_retv, s_go, s_pop, x_linc, x_finc, Value.category, if_icmp.holds, List.flatMap_cons, List.flatMap_nil, List.length_cons, List.length_append, List.length_nil, List.set_cons_succ, List.set_cons_zero, List.getElem?_cons_succ, List.getElem?_cons_zero, List.replicate, ite_and', ite_or', ite_int', nI_leI, nI_ltI, nI_eq, nI_add, nI_1, pk_mul, nI_clamp, n_in', nI_pos', nI_pos, n_m1e, n_01, n_10, sT_1, sR_1_0, sR_1_1, sR_1_2, sR_1_3, sR_1_4, sR_1_5, sR_1_6, sR_1_7, sR_1_8, sR_1_9, sT_2, sT_3, sT_4, sT_5, sT_6, sT_7, sT_8, sT_9, sT_10, sT_11, sT_12, sT_13, sT_14, sR_2_1, sR_2_2, sR_2_3, sR_2_4, sR_2_5, sR_2_6, sR_2_7, sR_2_8, sR_2_9, sR_2_10, sR_2_11, sR_2_12, sT_15, sT_16, sT_17, sT_18, sT_19, sT_20, sT_21, sT_22, sT_23, sR_15_1, sR_15_2, sR_15_3, sR_15_4, sR_15_5, sR_15_6, sR_15_7, sR_15_8, sT_24, sT_25, sT_26, sT_27, sT_28, sT_29, sR_24_1, sR_24_2, sR_24_3, sR_24_4, sR_24_5, sT_71, sT_72, sR_71_0, sR_71_1, sR_71_2, sR_71_3, sR_71_4, sT_73, sT_74, sT_75, sR_73_0, sR_73_1, sR_73_2, sR_73_3, sR_73_4, sR_73_5, sT_84, sT_85, sT_86, sT_87, sR_84_0, sR_84_1, sR_84_2, sR_84_3, sR_84_4, sR_84_5, sT_88, sT_89, sR_88_0, sT_90, sT_91, sR_90_0, hi, ea, ef, t1, r4, n7, t7]
    · by_cases e : Q = i
      · subst e; rw [hI_setI, if_pos ⟨rfl, rfl⟩]
      · rw [hI_setI, if_neg (by omega)]
        exact c1 Q (by omega)
  · rintro st ⟨h1, rfl, f1, c1⟩
    refine ⟨_, ?_, h1, rfl, f1, c1⟩
    generalize 2 ^ nOf A k = n2 at *
    simp (disch := first | assumption | omega) [lstp, lc_D_ready_1, lb_D_ready_1, lu_D_ready_1, j_meth, j_out, j_rok, j_pad, lg_sl, s_seq_w, isN_inl, isN_inr, s_if, jb, x_c, x_iloc, x_aloc, x_lloc, x_bin, x_un, o_add, o_sub, o_mul, o_and, o_or, o_xor, o_shl, o_shr, o_ushr, o_max, o_min, o_i2b, o_i2c, o_i2l, o_l2i, x_fld, j_fget, x_idx, j_aget, x_len, j_alen, x_ofb, x_ite, xs_nil, xs_cons, x_callv, x_calls, s_callv, s_calls, j_recv, j_ret, j_retv, b_cmp, b_and, b_or, b_not, b_ofi, b_ite, b_true, s_skip, s_set, j_ty, j_lset, j_kill, s_inc, s_fput, j_fput, s_fop, s_aput, j_aput, j_nar, s_aop, s_ret, s_retv, s_go, s_pop, x_linc, x_finc, Value.category, if_icmp.holds, List.flatMap_cons, List.flatMap_nil, List.length_cons, List.length_append, List.length_nil, List.set_cons_succ, List.set_cons_zero, List.getElem?_cons_succ, List.getElem?_cons_zero, List.replicate, ite_and', ite_or', ite_int', nI_leI, nI_ltI, nI_eq, nI_add, nI_1, pk_mul, nI_clamp, n_in', nI_pos', nI_pos, n_m1e, n_01, n_10, sT_1, sR_1_0, sR_1_1, sR_1_2, sR_1_3, sR_1_4, sR_1_5, sR_1_6, sR_1_7, sR_1_8, sR_1_9, sT_2, sT_3, sT_4, sT_5, sT_6, sT_7, sT_8, sT_9, sT_10, sT_11, sT_12, sT_13, sT_14, sR_2_1, sR_2_2, sR_2_3, sR_2_4, sR_2_5, sR_2_6, sR_2_7, sR_2_8, sR_2_9, sR_2_10, sR_2_11, sR_2_12, sT_15, sT_16, sT_17, sT_18, sT_19, sT_20, sT_21, sT_22, sT_23, sR_15_1, sR_15_2, sR_15_3, sR_15_4, sR_15_5, sR_15_6, sR_15_7, sR_15_8, sT_24, sT_25, sT_26, sT_27, sT_28, sT_29, sR_24_1, sR_24_2, sR_24_3, sR_24_4, sR_24_5, sT_71, sT_72, sR_71_0, sR_71_1, sR_71_2, sR_71_3, sR_71_4, sT_73, sT_74, sT_75, sR_73_0, sR_73_1, sR_73_2, sR_73_3, sR_73_4, sR_73_5, sT_84, sT_85, sT_86, sT_87, sR_84_0, sR_84_1, sR_84_2, sR_84_3, sR_84_4, sR_84_5, sT_88, sT_89, sR_88_0, sT_90, sT_91, sR_90_0]
/-- counting down -/
def dn (m : Nat) : Int32 := nI m + -1
theorem dn_s (m : Nat) : dn (m + 1) = nI m := by
  unfold dn
  have h1 : nI 1 + (-1 : Int32) = 0 := by decide
  rw [← nI_add, Int32.add_assoc, h1, Int32.add_zero]
theorem dn_0 : dn 0 = -1 := by decide
theorem e_D_ready_2 {A : AS} {h : jHp} (x : CX A h) {k a l : Nat} {v3 v4 : Int32} (hk : k < 4) (d : CD0 A k a h) (hl : l < 4) (ct : ∀ Q, Q < 2 ^ nOf A k → hI h (dA k + 7) (256 * l + Q) = nI (tP A k l Q)) : ∃ h', s_loop 3 4 lc_D_ready_2 lb_D_ready_2 lu_D_ready_2 ([.ref (dA k), .int (nI l), .int (nI (256 * l)), .int v3, .int v4, .int (dn (2 ^ nOf A k))], h) = some (.inl 0, ([.ref (dA k), .int (nI l), .int (nI (256 * l)), .int v3, .int v4, .int (-1)], h')) ∧ Fr (Wtl k l) h h' ∧ ∀ Q, Q < 2 ^ nOf A k → hI h' (dA k + 7) (256 * l + Q) = nI (tE A k l Q) := by
  have w := x.2.1
  have h8 := nOf_le w k
  have hp8 : 2 ^ nOf A k ≤ 256 := Nat.pow_le_pow_right (n := 2) (by decide) h8
  have hL := loop_wp (lb := 3) (lc := 4) (c := lc_D_ready_2) (b := lb_D_ready_2) (u := lu_D_ready_2) (2 ^ nOf A k)
    (fun i st => ∃ h', st = ([.ref (dA k), .int (nI l), .int (nI (256 * l)), .int v3, .int v4, .int (dn (2 ^ nOf A k - i))], h') ∧ Fr (Wtl k l) h h' ∧ ∀ Q, Q < 2 ^ nOf A k → hI h' (dA k + 7) (256 * l + Q) = nI (if Q < 2 ^ nOf A k - i then tP A k l Q else tE A k l Q))
    (fun r => ∃ h', r = (.inl 0, ([.ref (dA k), .int (nI l), .int (nI (256 * l)), .int v3, .int v4, .int (-1)], h')) ∧ Fr (Wtl k l) h h' ∧ ∀ Q, Q < 2 ^ nOf A k → hI h' (dA k + 7) (256 * l + Q) = nI (tE A k l Q))
    ?_ ?_ _ ⟨h, rfl, Fr_refl _ _, fun Q hQ => by rw [Nat.sub_zero, if_pos hQ]; exact ct Q hQ⟩
  · obtain ⟨r, e, h', rfl, f, c⟩ := hL
    exact ⟨h', e, f, c⟩
  · rintro i st hi ⟨h1, rfl, f1, c1⟩
    left
    have hW : ∀ a j, Wtl k l a j → ¬ cC a j := fun a j q => Wdk_cC hk (Wtl_Wdk q)
    have x1 := CX_fr x f1 hW
    have d1 := CD0_fr hk d f1 hW
    have hs1 := x1.1
    obtain ⟨t1, r1, r2, r4, r5, r6, t7, t8, t9, -⟩ := DSh_of hs1 hk
    have n7 : dA k + 7 ≠ 0 := by omega
    obtain ⟨P, hPe⟩ : ∃ P, 2 ^ nOf A k - i = P + 1 := ⟨2 ^ nOf A k - i - 1, by omega⟩
    have hP : P < 2 ^ nOf A k := by omega
    rw [hPe] at c1 ⊢
    rw [dn_s]
    rw [show 2 ^ nOf A k - (i + 1) = P by omega]
    have cP := c1 P hP
    rw [if_pos (by omega)] at cP
    have eg := e_D_growsByOne x1 hk d1 hl hP (fun Q h1 h2 => by
      have := c1 Q h2
      rw [if_neg (by omega)] at this
      exact this)
    have hsf := tP_self w (l := l) hP
    have hrec := tG_rec (A := A) (f := k) (l := l) hP
    have hgb : (fst1 (gbP A k l P) (nOf A k)).isSome = true ↔ ∃ i, i < nOf A k ∧ P.testBit i = false ∧ tG A k l (P ||| 2 ^ i) = true := by
      rw [fst1_isSome]
      unfold gbP
      simp only [Bool.and_eq_true, Bool.not_eq_true']
    rw [← hgb] at hrec
    have ta := t_and _ (tP_256 A k l P)
    have t256 := tP_256 A k l P
    have hres : ∃ h2, lstp 3 4 lc_D_ready_2 lb_D_ready_2 lu_D_ready_2 ([.ref (dA k), .int (nI l), .int (nI (256 * l)), .int v3, .int v4, .int (nI P)], h1) = some (.inl ([.ref (dA k), .int (nI l), .int (nI (256 * l)), .int v3, .int v4, .int (dn P)], h2)) ∧ Fr (Wtl k l) h1 h2 ∧ hI h2 (dA k + 7) (256 * l + P) = nI (tE A k l P) ∧ ∀ Q, Q ≠ P → hI h2 (dA k + 7) (256 * l + Q) = hI h1 (dA k + 7) (256 * l + Q) := by
      have hP0 : (0 : Int32) ≤ nI P := nI_pos' (by omega)
      have hdn : nI P + -1 = dn P := rfl
      have hTP : (nI (tP A k l P) = nI P) = (tP A k l P = P) := propext (n_eq (by omega) (by omega))
      have h10 : ((1 : Int32) = 0) = False := by decide
      by_cases hg : tG A k l P = true
      · have htE : tE A k l P = tP A k l P + 256 := by unfold tE; rw [if_pos hg]
        refine ⟨hSetI h1 (dA k + 7) (256 * l + P) (nI (tP A k l P + 256)), ?_, Fr_set _ ⟨rfl, by omega, by omega⟩, by rw [hI_setI, if_pos ⟨rfl, rfl⟩, htE], fun Q hQ => by rw [hI_setI, if_neg (by omega)]⟩
        have hor := hrec.mp hg
        rw [← hsf] at hor
        obtain ⟨u1, -, -, -, u5⟩ := ta
        clear c1 x1 d1 f1 hrec hgb hsf htE hg
        generalize tP A k l P = T at *
        generalize (fst1 (gbP A k l P) (nOf A k)).isSome = g at *
        generalize dn P = dP at *
        generalize 2 ^ nOf A k = n2 at *
        generalize dA k + 7 = D7 at *
        generalize dA k = D at *
        by_cases q : T = P
        · subst q
          simp (disch := first | assumption | omega) [lstp, lc_D_ready_2, lb_D_ready_2, lu_D_ready_2, j_meth, j_out, j_rok, j_pad, lg_sl, s_seq_w, isN_inl, isN_inr, s_if, jb, x_c, x_iloc, x_aloc, x_lloc, x_bin, x_un, o_add, o_sub, o_mul, o_and, o_or, o_xor, o_shl, o_shr, o_ushr, o_max, o_min, o_i2b, o_i2c, o_i2l, o_l2i, x_fld, j_fget, x_idx, j_aget, x_len, j_alen, x_ofb, x_ite, xs_nil, xs_cons, x_callv, x_calls, s_callv, s_calls, j_recv, j_ret, j_retv, b_cmp, b_and, b_or, b_not, b_ofi, b_ite, b_true, s_skip, s_set, j_ty, j_lset, j_kill, s_inc, s_fput, j_fput, s_fop, s_aput, j_aput, j_nar, s_aop, s_ret, s_retv, s_go, s_pop, x_linc, x_finc, Value.category, if_icmp.holds, List.flatMap_cons, List.flatMap_nil, List.length_cons, List.length_append, List.length_nil, List.set_cons_succ, List.set_cons_zero, List.getElem?_cons_succ, List.getElem?_cons_zero, List.replicate, ite_and', ite_or', ite_int', nI_leI, nI_ltI, nI_eq, nI_add, nI_1, pk_mul, nI_clamp, n_in', nI_pos', nI_pos, n_m1e, n_01, n_10, sT_1, sR_1_0, sR_1_1, sR_1_2, sR_1_3, sR_1_4, sR_1_5, sR_1_6, sR_1_7, sR_1_8, sR_1_9, sT_2, sT_3, sT_4, sT_5, sT_6, sT_7, sT_8, sT_9, sT_10, sT_11, sT_12, sT_13, sT_14, sR_2_1, sR_2_2, sR_2_3, sR_2_4, sR_2_5, sR_2_6, sR_2_7, sR_2_8, sR_2_9, sR_2_10, sR_2_11, sR_2_12, sT_15, sT_16, sT_17, sT_18, sT_19, sT_20, sT_21, sT_22, sT_23, sR_15_1, sR_15_2, sR_15_3, sR_15_4, sR_15_5, sR_15_6, sR_15_7, sR_15_8, sT_24, sT_25, sT_26, sT_27, sT_28, sT_29, sR_24_1, sR_24_2, sR_24_3, sR_24_4, sR_24_5, sT_71, sT_72, sR_71_0, sR_71_1, sR_71_2, sR_71_3, sR_71_4, sT_73, sT_74, sT_75, sR_73_0, sR_73_1, sR_73_2, sR_73_3, sR_73_4, sR_73_5, sT_84, sT_85, sT_86, sT_87, sR_84_0, sR_84_1, sR_84_2, sR_84_3, sR_84_4, sR_84_5, sT_88, sT_89, sR_88_0, sT_90, sT_91, sR_90_0, hP0, t1, r4, n7, t7, cP, n_and, u1, n_or, u5, hdn]
        · have hg1 : g = true := by
            rcases hor with z | z
            · exact absurd z q
            · exact z
          subst hg1
          simp only [if_true] at eg
          simp (disch := first | assumption | omega) [lstp, lc_D_ready_2, lb_D_ready_2, lu_D_ready_2, j_meth, j_out, j_rok, j_pad, lg_sl, s_seq_w, isN_inl, isN_inr, s_if, jb, x_c, x_iloc, x_aloc, x_lloc, x_bin, x_un, o_add, o_sub, o_mul, o_and, o_or, o_xor, o_shl, o_shr, o_ushr, o_max, o_min, o_i2b, o_i2c, o_i2l, o_l2i, x_fld, j_fget, x_idx, j_aget, x_len, j_alen, x_ofb, x_ite, xs_nil, xs_cons, x_callv, x_calls, s_callv, s_calls, j_recv, j_ret, j_retv, b_cmp, b_and, b_or, b_not, b_ofi, b_ite, b_true, s_skip, s_set, j_ty, j_lset, j_kill, s_inc, s_fput, j_fput, s_fop, s_aput, j_aput, j_nar, s_aop, s_ret, s_retv, s_go, s_pop, x_linc, x_finc, Value.category, if_icmp.holds, List.flatMap_cons, List.flatMap_nil, List.length_cons, List.length_append, List.length_nil, List.set_cons_succ, List.set_cons_zero, List.getElem?_cons_succ, List.getElem?_cons_zero, List.replicate, ite_and', ite_or', ite_int', nI_leI, nI_ltI, nI_eq, nI_add, nI_1, pk_mul, nI_clamp, n_in', nI_pos', nI_pos, n_m1e, n_01, n_10, sT_1, sR_1_0, sR_1_1, sR_1_2, sR_1_3, sR_1_4, sR_1_5, sR_1_6, sR_1_7, sR_1_8, sR_1_9, sT_2, sT_3, sT_4, sT_5, sT_6, sT_7, sT_8, sT_9, sT_10, sT_11, sT_12, sT_13, sT_14, sR_2_1, sR_2_2, sR_2_3, sR_2_4, sR_2_5, sR_2_6, sR_2_7, sR_2_8, sR_2_9, sR_2_10, sR_2_11, sR_2_12, sT_15, sT_16, sT_17, sT_18, sT_19, sT_20, sT_21, sT_22, sT_23, sR_15_1, sR_15_2, sR_15_3, sR_15_4, sR_15_5, sR_15_6, sR_15_7, sR_15_8, sT_24, sT_25, sT_26, sT_27, sT_28, sT_29, sR_24_1, sR_24_2, sR_24_3, sR_24_4, sR_24_5, sT_71, sT_72, sR_71_0, sR_71_1, sR_71_2, sR_71_3, sR_71_4, sT_73, sT_74, sT_75, sR_73_0, sR_73_1, sR_73_2, sR_73_3, sR_73_4, sR_73_5, sT_84, sT_85, sT_86, sT_87, sR_84_0, sR_84_1, sR_84_2, sR_84_3, sR_84_4, sR_84_5, sT_88, sT_89, sR_88_0, sT_90, sT_91, sR_90_0, hP0, t1, r4, n7, t7, cP, n_and, u1, hTP, q, eg, h10, n_or, u5, hdn]
      · have htE : tE A k l P = tP A k l P := by unfold tE; rw [if_neg hg]; rfl
        refine ⟨h1, ?_, Fr_refl _ _, by rw [cP, htE], fun Q hQ => rfl⟩
        have hor : ¬ (kOk A k l P = true ∨ (fst1 (gbP A k l P) (nOf A k)).isSome = true) := fun z => hg (hrec.mpr z)
        rw [← hsf] at hor
        obtain ⟨u1, -, -, -, u5⟩ := ta
        clear c1 x1 d1 f1 hrec hgb hsf htE hg
        generalize tP A k l P = T at *
        generalize (fst1 (gbP A k l P) (nOf A k)).isSome = g at *
        generalize dn P = dP at *
        generalize 2 ^ nOf A k = n2 at *
        generalize dA k + 7 = D7 at *
        generalize dA k = D at *
        have q : ¬ T = P := fun z => hor (Or.inl z)
        have hg1 : g = false := by
          cases g with
          | false => rfl
          | true => exact absurd (Or.inr rfl) hor
        subst hg1
        simp only [Bool.false_eq_true, if_false] at eg
        simp (disch := first | assumption | omega) [lstp, lc_D_ready_2, lb_D_ready_2, lu_D_ready_2, j_meth, j_out, j_rok, j_pad, lg_sl, s_seq_w, isN_inl, isN_inr, s_if, jb, x_c, x_iloc, x_aloc, x_lloc, x_bin, x_un, o_add, o_sub, o_mul, o_and, o_or, o_xor, o_shl, o_shr, o_ushr, o_max, o_min, o_i2b, o_i2c, o_i2l, o_l2i, x_fld, j_fget, x_idx, j_aget, x_len, j_alen, x_ofb, x_ite, xs_nil, xs_cons, x_callv, x_calls, s_callv, s_calls, j_recv, j_ret, j_retv, b_cmp, b_and, b_or, b_not, b_ofi, b_ite, b_true, s_skip, s_set, j_ty, j_lset, j_kill, s_inc, s_fput, j_fput, s_fop, s_aput, j_aput, j_nar, s_aop, s_ret, s_retv, s_go, s_pop, x_linc, x_finc, Value.category, if_icmp.holds, List.flatMap_cons, List.flatMap_nil, List.length_cons, List.length_append, List.length_nil, List.set_cons_succ, List.set_cons_zero, List.getElem?_cons_succ, List.getElem?_cons_zero, List.replicate, ite_and', ite_or', ite_int', nI_leI, nI_ltI, nI_eq, nI_add, nI_1, pk_mul, nI_clamp, n_in', nI_pos', nI_pos, n_m1e, n_01, n_10, sT_1, sR_1_0, sR_1_1, sR_1_2, sR_1_3, sR_1_4, sR_1_5, sR_1_6, sR_1_7, sR_1_8, sR_1_9, sT_2, sT_3, sT_4, sT_5, sT_6, sT_7, sT_8, sT_9, sT_10, sT_11, sT_12, sT_13, sT_14, sR_2_1, sR_2_2, sR_2_3, sR_2_4, sR_2_5, sR_2_6, sR_2_7, sR_2_8, sR_2_9, sR_2_10, sR_2_11, sR_2_12, sT_15, sT_16, sT_17, sT_18, sT_19, sT_20, sT_21, sT_22, sT_23, sR_15_1, sR_15_2, sR_15_3, sR_15_4, sR_15_5, sR_15_6, sR_15_7, sR_15_8, sT_24, sT_25, sT_26, sT_27, sT_28, sT_29, sR_24_1, sR_24_2, sR_24_3, sR_24_4, sR_24_5, sT_71, sT_72, sR_71_0, sR_71_1, sR_71_2, sR_71_3, sR_71_4, sT_73, sT_74, sT_75, sR_73_0, sR_73_1, sR_73_2, sR_73_3, sR_73_4, sR_73_5, sT_84, sT_85, sT_86, sT_87, sR_84_0, sR_84_1, sR_84_2, sR_84_3, sR_84_4, sR_84_5, sT_88, sT_89, sR_88_0, sT_90, sT_91, sR_90_0, hP0, t1, r4, n7, t7, cP, n_and, u1, hTP, q, eg, hdn]
    obtain ⟨h2, e2, f2, c2, c3⟩ := hres
    refine ⟨_, e2, h2, rfl, Fr_trans f1 f2, fun Q hQ => ?_⟩
    by_cases e : Q = P
    · subst e; rw [c2, if_neg (by omega)]
    · rw [c3 Q e, c1 Q hQ]
      congr 1
      by_cases q : Q < P
      · rw [if_pos (by omega), if_pos q]
      · rw [if_neg (by omega), if_neg q]
  · rintro st ⟨h1, rfl, f1, c1⟩
    rw [Nat.sub_self, dn_0] at *
    have hm : ¬ (0 : Int32) ≤ -1 := by decide
    refine ⟨_, ?_, h1, rfl, f1, fun Q hQ => by have := c1 Q hQ; rw [if_neg (by omega)] at this; exact this⟩
    simp (disch := first | assumption | omega) [lstp, lc_D_ready_2, lb_D_ready_2, lu_D_ready_2, j_meth, j_out, j_rok, j_pad, lg_sl, s_seq_w, isN_inl, isN_inr, s_if, jb, x_c, x_iloc, x_aloc, x_lloc, x_bin, x_un, o_add, o_sub, o_mul, o_and, o_or, o_xor, o_shl, o_shr, o_ushr, o_max, o_min, o_i2b, o_i2c, o_i2l, o_l2i, x_fld, j_fget, x_idx, j_aget, x_len, j_alen, x_ofb, x_ite, xs_nil, xs_cons, x_callv, x_calls, s_callv, s_calls, j_recv, j_ret, j_retv, b_cmp, b_and, b_or, b_not, b_ofi, b_ite, b_true, s_skip, s_set, j_ty, j_lset, j_kill, s_inc, s_fput, j_fput, s_fop, s_aput, j_aput, j_nar, s_aop, s_ret, s_retv, s_go, s_pop, x_linc, x_finc, Value.category, if_icmp.holds, List.flatMap_cons, List.flatMap_nil, List.length_cons, List.length_append, List.length_nil, List.set_cons_succ, List.set_cons_zero, List.getElem?_cons_succ, List.getElem?_cons_zero, List.replicate, ite_and', ite_or', ite_int', nI_leI, nI_ltI, nI_eq, nI_add, nI_1, pk_mul, nI_clamp, n_in', nI_pos', nI_pos, n_m1e, n_01, n_10, sT_1, sR_1_0, sR_1_1, sR_1_2, sR_1_3, sR_1_4, sR_1_5, sR_1_6, sR_1_7, sR_1_8, sR_1_9, sT_2, sT_3, sT_4, sT_5, sT_6, sT_7, sT_8, sT_9, sT_10, sT_11, sT_12, sT_13, sT_14, sR_2_1, sR_2_2, sR_2_3, sR_2_4, sR_2_5, sR_2_6, sR_2_7, sR_2_8, sR_2_9, sR_2_10, sR_2_11, sR_2_12, sT_15, sT_16, sT_17, sT_18, sT_19, sT_20, sT_21, sT_22, sT_23, sR_15_1, sR_15_2, sR_15_3, sR_15_4, sR_15_5, sR_15_6, sR_15_7, sR_15_8, sT_24, sT_25, sT_26, sT_27, sT_28, sT_29, sR_24_1, sR_24_2, sR_24_3, sR_24_4, sR_24_5, sT_71, sT_72, sR_71_0, sR_71_1, sR_71_2, sR_71_3, sR_71_4, sT_73, sT_74, sT_75, sR_73_0, sR_73_1, sR_73_2, sR_73_3, sR_73_4, sR_73_5, sT_84, sT_85, sT_86, sT_87, sR_84_0, sR_84_1, sR_84_2, sR_84_3, sR_84_4, sR_84_5, sT_88, sT_89, sR_88_0, sT_90, sT_91, sR_90_0, hm]
/-- what a Desk holds ready: its tables, by the bits of bl -/
def CTl (A : AS) (k l : Nat) (h : jHp) : Prop := ∀ P, P < 2 ^ nOf A k → hI h (dA k + 7) (256 * l + P) = nI (tE A k l P)
def CR (A : AS) (k bl : Nat) (h : jHp) : Prop := CO A k h ∧ (bl ≠ 0 → hI h (dA k) 7 = 1) ∧ bl < 16 ∧ hI h (dA k) 8 = nI bl ∧ ∀ l, l < 4 → bl.testBit l = true → CTl A k l h
theorem e_D_ready {A : AS} {h : jHp} (x : CX A h) {k a l bl : Nat} (hk : k < 4) (d : CD0 A k a h) (hl : l < 4) (t : CR A k bl h) : ∃ h', f_D_ready [.ref (dA k), .int (nI l)] h = some (none, h') ∧ Fr (Wdk k) h h' ∧ CR A k (bl ||| 2 ^ l) h' := by
  have hs := x.1
  have w := x.2.1
  obtain ⟨co, ho, hb, c8, ctl⟩ := t
  obtain ⟨t1, r1, r2, r4, r5, r6, t7, t8, t9, -⟩ := DSh_of hs hk
  have hbt := n_bit (a := bl) (k := l) (by omega) (by omega)
  have h00 : (nI 0 = 0) = True := by decide
  have h10 : (nI 1 = 0) = False := by decide
  by_cases q : bl.testBit l = true
  · have e : bl ||| 2 ^ l = bl := by
      apply Nat.eq_of_testBit_eq
      intro j
      rw [Nat.testBit_or, Nat.testBit_two_pow]
      by_cases z : l = j
      · subst z; rw [q]; rfl
      · simp [z]
    rw [e]
    refine ⟨h, ?_, Fr_refl _ _, co, ho, hb, c8, ctl⟩
    rw [q] at hbt
    simp only [Bool.toNat_true] at hbt
    clear ctl co
    generalize dA k = D at *
    simp (disch := first | assumption | omega) [f_D_ready, body_D_ready, j_meth, j_out, j_rok, j_pad, lg_sl, s_seq_w, isN_inl, isN_inr, s_if, jb, x_c, x_iloc, x_aloc, x_lloc, x_bin, x_un, o_add, o_sub, o_mul, o_and, o_or, o_xor, o_shl, o_shr, o_ushr, o_max, o_min, o_i2b, o_i2c, o_i2l, o_l2i, x_fld, j_fget, x_idx, j_aget, x_len, j_alen, x_ofb, x_ite, xs_nil, xs_cons, x_callv, x_calls, s_callv, s_calls, j_recv, j_ret, j_retv, b_cmp, b_and, b_or, b_not, b_ofi, b_ite, b_true, s_skip, s_set, j_ty, j_lset, j_kill, s_inc, s_fput, j_fput, s_fop, s_aput, j_aput, j_nar, s_aop, s_ret, s_retv, s_go, s_pop, x_linc, x_finc, Value.category, if_icmp.holds, List.flatMap_cons, List.flatMap_nil, List.length_cons, List.length_append, List.length_nil, List.set_cons_succ, List.set_cons_zero, List.getElem?_cons_succ, List.getElem?_cons_zero, List.replicate, ite_and', ite_or', ite_int', nI_leI, nI_ltI, nI_eq, nI_add, nI_1, pk_mul, nI_clamp, n_in', nI_pos', nI_pos, n_m1e, n_01, n_10, sT_1, sR_1_0, sR_1_1, sR_1_2, sR_1_3, sR_1_4, sR_1_5, sR_1_6, sR_1_7, sR_1_8, sR_1_9, sT_2, sT_3, sT_4, sT_5, sT_6, sT_7, sT_8, sT_9, sT_10, sT_11, sT_12, sT_13, sT_14, sR_2_1, sR_2_2, sR_2_3, sR_2_4, sR_2_5, sR_2_6, sR_2_7, sR_2_8, sR_2_9, sR_2_10, sR_2_11, sR_2_12, sT_15, sT_16, sT_17, sT_18, sT_19, sT_20, sT_21, sT_22, sT_23, sR_15_1, sR_15_2, sR_15_3, sR_15_4, sR_15_5, sR_15_6, sR_15_7, sR_15_8, sT_24, sT_25, sT_26, sT_27, sT_28, sT_29, sR_24_1, sR_24_2, sR_24_3, sR_24_4, sR_24_5, sT_71, sT_72, sR_71_0, sR_71_1, sR_71_2, sR_71_3, sR_71_4, sT_73, sT_74, sT_75, sR_73_0, sR_73_1, sR_73_2, sR_73_3, sR_73_4, sR_73_5, sT_84, sT_85, sT_86, sT_87, sR_84_0, sR_84_1, sR_84_2, sR_84_3, sR_84_4, sR_84_5, sT_88, sT_89, sR_88_0, sT_90, sT_91, sR_90_0, t1, c8, hbt, h10]
  · have q' : bl.testBit l = false := by simpa using q
    rw [q'] at hbt
    simp only [Bool.toNat_false] at hbt
    have h8 := nOf_le w k
    have hp8 : 2 ^ nOf A k ≤ 256 := Nat.pow_le_pow_right (n := 2) (by decide) h8
    have hp0 := Nat.two_pow_pos (nOf A k)
    obtain ⟨h1, e1, f1, g1, c1⟩ := e_D_arrange x hk d co
    have hW1 : ∀ a j, Wda k a j → ¬ cC a j := fun a j q => Wdk_cC hk (Wda_Wdk q)
    have x1 := CX_fr x f1 hW1
    have d1 := CD0_fr hk d f1 hW1
    have hs1 := x1.1
    obtain ⟨h2, e2, f2, c2⟩ := e_D_ready_1 x1 hk d1 hl c1.2
    have hW2 : ∀ a j, Wtl k l a j → ¬ cC a j := fun a j q => Wdk_cC hk (Wtl_Wdk q)
    have x2 := CX_fr x1 f2 hW2
    have d2 := CD0_fr hk d1 f2 hW2
    have hs2 := x2.1
    obtain ⟨h3, e3, f3, c3⟩ := e_D_ready_2 (v3 := nI (2 ^ nOf A k)) (v4 := nI (cMost (chD A k) + lv A k l)) x2 hk d2 hl c2
    have hs3 := Fr_shape hs2 f3
    have f23 := Fr_trans f2 f3
    have g8 : hI h3 (dA k) 8 = nI bl := by
      rw [Fr_I f23 (by unfold Wtl; omega), Fr_I f1 (by unfold Wda; omega)]; exact c8
    refine ⟨hSetI h3 (dA k) 8 (nI (bl ||| 2 ^ l)), ?_, ?_, ?_⟩
    · have m := e_Ch_mostWith (l := l) hs1 d1.2.2.1 d1.2.2.2 (chD_ok w k).1 hl
      have hlv : min l (8 - cMost (chD A k)) = lv A k l := rfl
      rw [hlv] at m
      have c10 : hI h1 10 k = nI (nOf A k) := x1.2.2.1.2.2.1 k hk
      have d10 := d1.1
      have d13 := d1.2.1
      have ha0 : a ≠ 0 := by rcases d1.2.2.1 with rfl | rfl | rfl | rfl | rfl <;> decide
      have u0 := (CA_of hs1 d1.2.2.1).1
      obtain ⟨u1, s1, -⟩ := DSh_of hs1 hk
      obtain ⟨v1, -⟩ := DSh_of hs3 hk
      have hsn := n_shl 1 (k := nOf A k) (by omega)
      rw [Nat.one_mul] at hsn
      have hsl := n_shl 1 (k := l) (by omega)
      rw [Nat.one_mul] at hsl
      have hsu : nI (2 ^ nOf A k) - nI 1 = dn (2 ^ nOf A k) := by
        rw [pk_sub (by omega)]
        have := dn_s (2 ^ nOf A k - 1)
        rw [← this]
        congr 1
        omega
      have hc : l * 256 = 256 * l := by omega
      clear ctl co c1 c2 c3 f1 f2 f3 f23 x1 x2 d1 d2 x d hW1 hW2
      generalize dn (2 ^ nOf A k) = dP at *
      generalize cMost (chD A k) + lv A k l = mm at *
      generalize 2 ^ nOf A k = n2 at *
      generalize 2 ^ l = l2 at *
      generalize dA k = D at *
      simp only [nI_0] at e2
      simp (disch := first | assumption | omega) [f_D_ready, body_D_ready, j_meth, j_out, j_rok, j_pad, lg_sl, s_seq_w, isN_inl, isN_inr, s_if, jb, x_c, x_iloc, x_aloc, x_lloc, x_bin, x_un, o_add, o_sub, o_mul, o_and, o_or, o_xor, o_shl, o_shr, o_ushr, o_max, o_min, o_i2b, o_i2c, o_i2l, o_l2i, x_fld, j_fget, x_idx, j_aget, x_len, j_alen, x_ofb, x_ite, xs_nil, xs_cons, x_callv, x_calls, s_callv, s_calls, j_recv, j_ret, j_retv, b_cmp, b_and, b_or, b_not, b_ofi, b_ite, b_true, s_skip, s_set, j_ty, j_lset, j_kill, s_inc, s_fput, j_fput, s_fop, s_aput, j_aput, j_nar, s_aop, s_ret, s_retv, s_go, s_pop, x_linc, x_finc, Value.category, if_icmp.holds, List.flatMap_cons, List.flatMap_nil, List.length_cons, List.length_append, List.length_nil, List.set_cons_succ, List.set_cons_zero, List.getElem?_cons_succ, List.getElem?_cons_zero, List.replicate, ite_and', ite_or', ite_int', nI_leI, nI_ltI, nI_eq, nI_add, nI_1, pk_mul, nI_clamp, n_in', nI_pos', nI_pos, n_m1e, n_01, n_10, sT_1, sR_1_0, sR_1_1, sR_1_2, sR_1_3, sR_1_4, sR_1_5, sR_1_6, sR_1_7, sR_1_8, sR_1_9, sT_2, sT_3, sT_4, sT_5, sT_6, sT_7, sT_8, sT_9, sT_10, sT_11, sT_12, sT_13, sT_14, sR_2_1, sR_2_2, sR_2_3, sR_2_4, sR_2_5, sR_2_6, sR_2_7, sR_2_8, sR_2_9, sR_2_10, sR_2_11, sR_2_12, sT_15, sT_16, sT_17, sT_18, sT_19, sT_20, sT_21, sT_22, sT_23, sR_15_1, sR_15_2, sR_15_3, sR_15_4, sR_15_5, sR_15_6, sR_15_7, sR_15_8, sT_24, sT_25, sT_26, sT_27, sT_28, sT_29, sR_24_1, sR_24_2, sR_24_3, sR_24_4, sR_24_5, sT_71, sT_72, sR_71_0, sR_71_1, sR_71_2, sR_71_3, sR_71_4, sT_73, sT_74, sT_75, sR_73_0, sR_73_1, sR_73_2, sR_73_3, sR_73_4, sR_73_5, sT_84, sT_85, sT_86, sT_87, sR_84_0, sR_84_1, sR_84_2, sR_84_3, sR_84_4, sR_84_5, sT_88, sT_89, sR_88_0, sT_90, sT_91, sR_90_0, t1, c8, hbt, h00, e1, hc, u1, s1, d10, c10, hsn, d13, ha0, u0, m, nI_0, e2, hsu, e3, v1, g8, hsl, n_or]
    · exact Fr_trans (Fr_mono f1 fun a j q => Wda_Wdk q) (Fr_trans (Fr_mono f23 fun a j q => Wtl_Wdk q) (Fr_set _ (Or.inl ⟨rfl, Or.inr rfl⟩)))
    · have g7 : hI (hSetI h3 (dA k) 8 (nI (bl ||| 2 ^ l))) (dA k) 7 = 1 := by
        rw [hI_setI, if_neg (by omega), Fr_I f23 (by unfold Wtl; omega)]; exact g1
      refine ⟨Or.inr ⟨g7, fun i hi => ?_, fun P hP => ?_⟩, fun _ => g7, ?_, by rw [hI_setI, if_pos ⟨rfl, rfl⟩], fun m hm hb => ?_⟩
      · rw [hI_setI, if_neg (by omega), Fr_I f23 (by unfold Wtl; omega)]
        exact c1.1 i hi
      · rw [hI_setI, if_neg (by omega), Fr_I f23 (by unfold Wtl; omega)]
        exact c1.2 P hP
      · exact Nat.or_lt_two_pow (n := 4) hb (Nat.pow_lt_pow_right (by decide) hl)
      · intro P hP
        rw [hI_setI, if_neg (by omega)]
        by_cases e : m = l
        · subst e; exact c3 P hP
        · rw [Nat.testBit_or, Nat.testBit_two_pow] at hb
          have hb' : bl.testBit m = true := by
            have : ¬ l = m := fun z => e z.symm
            simpa [this] using hb
          rw [Fr_I f23 (by unfold Wtl; omega), Fr_I f1 (by unfold Wda; omega)]
          exact ctl m hm hb' P hP
