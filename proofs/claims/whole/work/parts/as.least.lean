/-! the least set that breaks -/
theorem pS_or {A : AS} (w : WF A) {f P Q : Nat} (hP : P < 2 ^ nOf A f) (hQ : Q < 2 ^ nOf A f) : pSet A f (P ||| Q) = pSet A f P ||| pSet A f Q := by
  have h8 := nOf_le w f
  have hp8 : 2 ^ nOf A f ≤ 256 := Nat.pow_le_pow_right (n := 2) (by decide) h8
  have hPQ : P ||| Q < 2 ^ nOf A f := Nat.or_lt_two_pow hP hQ
  apply Nat.eq_of_testBit_eq
  intro b
  rw [Nat.testBit_or, pSet_bit w (by omega), pSet_bit w (by omega), pSet_bit w (by omega), Nat.testBit_or]
  cases decide (b < aNb A) <;> cases decide (aOf A b = f) <;> simp
theorem pS_tk {A : AS} (w : WF A) (mv : Nat → Nat) {f P : Nat} (hP : P < 2 ^ nOf A f) : pSet A f (tP A f (mv f) P) = sTk (aMv A mv) f (pSet A f P) := by
  rw [(tP_spec w (l := mv f) hP).2.2.2.2, tk_mv]
def lbP (A : AS) (mv : Nat → Nat) (f H R P : Nat) : Bool := P &&& R == P && (P != H && tP A f (mv f) (H ||| P) == P)
theorem lbP_ok {A : AS} (w : WF A) (mv : Nat → Nat) {f S Wt P : Nat} (hP : P < 2 ^ nOf A f) : lbP A mv f (prt f (slM A S)) (prt f (slM A (S ||| Wt))) P = sBkP (aMv A mv) (S &&& sOff A f) ((S &&& sOff A f) ||| (Wt &&& sOff A f)) f (pSet A f P) := by
  have hH := prt_slM_lt w f S
  have hR := prt_slM_lt w f (S ||| Wt)
  have eH := pSet_prt w (f := f) (S := S)
  have eR := pSet_prt w (f := f) (S := S ||| Wt)
  have hmay : (S ||| Wt) &&& sOff A f = (S &&& sOff A f) ||| (Wt &&& sOff A f) := by
    apply Nat.eq_of_testBit_eq
    intro j
    simp only [Nat.testBit_and, Nat.testBit_or]
    cases (sOff A f).testBit j <;> simp
  rw [hmay] at eR
  have hHP : prt f (slM A S) ||| P < 2 ^ nOf A f := Nat.or_lt_two_pow hH hP
  have etk := pS_tk w mv hHP
  rw [pS_or w hH hP, eH] at etk
  have htl := (tP_spec w (l := mv f) hHP).1
  unfold lbP sBkP
  rw [← eR, ← etk]
  have b1 : (P &&& prt f (slM A (S ||| Wt)) == P) = (pSet A f P &&& pSet A f (prt f (slM A (S ||| Wt))) == pSet A f P) := by
    rw [Bool.eq_iff_iff, beq_iff_eq, beq_iff_eq, SubB_and, SubB_and]
    exact (SubB_pS w hR hP).symm
  have b2 : (P != prt f (slM A S)) = (pSet A f P != S &&& sOff A f) := by
    rw [Bool.eq_iff_iff, bne_iff_ne, bne_iff_ne, Ne, Ne, ← pS_inj w hP hH, eH]
  have b3 : (tP A f (mv f) (prt f (slM A S) ||| P) == P) = (pSet A f (tP A f (mv f) (prt f (slM A S) ||| P)) == pSet A f P) := by
    rw [Bool.eq_iff_iff, beq_iff_eq, beq_iff_eq, pS_inj w htl hP]
  rw [b1, b2, b3]
theorem lb_fst {A : AS} (w : WF A) (mv : Nat → Nat) (f S Wt : Nat) : sBrk (aMv A mv) S f Wt = (fst1 (lbP A mv f (prt f (slM A S)) (prt f (slM A (S ||| Wt)))) (prt f (slM A (S ||| Wt)) + 1)).map (pSet A f) := by
  have hR := prt_slM_lt w f (S ||| Wt)
  have eR := pSet_prt w (f := f) (S := S ||| Wt)
  have hmay : (S ||| Wt) &&& sOff A f = (S &&& sOff A f) ||| (Wt &&& sOff A f) := by
    apply Nat.eq_of_testBit_eq
    intro j
    simp only [Nat.testBit_and, Nat.testBit_or]
    cases (sOff A f).testBit j <;> simp
  rw [hmay] at eR
  have hlb := fun P (hP : P < 2 ^ nOf A f) => lbP_ok w mv (S := S) (Wt := Wt) hP
  have hB : sBrk (aMv A mv) S f Wt = fst1 (sBkP (aMv A mv) (S &&& sOff A f) ((S &&& sOff A f) ||| (Wt &&& sOff A f)) f) (((S &&& sOff A f) ||| (Wt &&& sOff A f)) + 1) := rfl
  rw [hB]
  have hsub : ∀ z, sBkP (aMv A mv) (S &&& sOff A f) ((S &&& sOff A f) ||| (Wt &&& sOff A f)) f z = true → ∃ P, P < 2 ^ nOf A f ∧ P ≤ prt f (slM A (S ||| Wt)) ∧ pSet A f P = z := by
    intro z hz
    have hz1 : z &&& ((S &&& sOff A f) ||| (Wt &&& sOff A f)) = z := by
      unfold sBkP at hz
      simp only [Bool.and_eq_true, beq_iff_eq] at hz
      exact hz.1
    have hs := SubB_and.mp hz1
    have hof : OfS A f z := fun b hb => by
      have := hs b hb
      rw [← eR] at this
      exact pS_of w hR b this
    refine ⟨prt f (slM A z), prt_slM_lt w f z, ?_, pS_back w hof⟩
    have : SubB (prt f (slM A z)) (prt f (slM A (S ||| Wt))) := by
      rw [← SubB_pS w hR (prt_slM_lt w f z), pS_back w hof, eR]
      exact hs
    exact sub_le (SubB_and.mpr this)
  generalize lbP A mv f (prt f (slM A S)) (prt f (slM A (S ||| Wt))) = lb at *
  generalize sBkP (aMv A mv) (S &&& sOff A f) ((S &&& sOff A f) ||| (Wt &&& sOff A f)) f = bk at *
  generalize prt f (slM A (S ||| Wt)) = R at *
  generalize (S &&& sOff A f) ||| (Wt &&& sOff A f) = may at *
  cases hf : fst1 lb (R + 1) with
  | none =>
    have h0 := fst1_none hf
    refine fst1_no fun z hz => ?_
    cases q : bk z with
    | false => rfl
    | true =>
      obtain ⟨P, p1, p2, p3⟩ := hsub z q
      have := h0 P (by omega)
      rw [hlb P p1, p3, q] at this
      cases this
  | some P =>
    obtain ⟨h1, h2, h3⟩ := fst1_some hf
    have hP : P < 2 ^ nOf A f := by omega
    rw [hlb P hP] at h2
    have hle : pSet A f P ≤ may := by
      rw [← eR]
      by_cases e : P = R
      · rw [e]; exact Nat.le_refl _
      · exact Nat.le_of_lt (pS_mono w hR (by omega))
    refine fst1_of (by omega) h2 fun z hz => ?_
    cases q : bk z with
    | false => rfl
    | true =>
      obtain ⟨Q, p1, p2, p3⟩ := hsub z q
      have hQP : Q < P := by
        cases Nat.lt_or_ge Q P with
        | inl q => exact q
        | inr q =>
          by_cases e : Q = P
          · subst e; omega
          · have := pS_mono w p1 (show P < Q by omega)
            omega
      have := h3 Q hQP
      rw [hlb Q p1, p3, q] at this
      cases this
theorem brk_iff {A : AS} (w : WF A) {f S Wt : Nat} (hfr : sTk A f S = S &&& sOff A f) : (sBrk A S f Wt).isSome = (sTk A f (S ||| Wt) != S &&& sOff A f) := by
  have hmay : (S ||| Wt) &&& sOff A f = (S &&& sOff A f) ||| (Wt &&& sOff A f) := by
    apply Nat.eq_of_testBit_eq
    intro j
    simp only [Nat.testBit_and, Nat.testBit_or]
    cases (sOff A f).testBit j <;> simp
  have ht := sTk_off w f (S ||| Wt)
  rw [hmay] at ht
  obtain ⟨a1, a2, a3, a4⟩ := take_spec w f ((S &&& sOff A f) ||| (Wt &&& sOff A f))
  rw [ht] at a1 a2 a3 a4
  have hs1 := take_spec w f S
  rw [hfr] at hs1
  rw [Bool.eq_iff_iff, bne_iff_ne]
  unfold sBrk
  rw [fst1_isSome]
  generalize hhis : S &&& sOff A f = his at *
  generalize hmm : his ||| (Wt &&& sOff A f) = may at *
  have hle : SubB his may := fun b hb => by rw [← hmm, Nat.testBit_or, hb]; rfl
  constructor
  · rintro ⟨z, -, hz⟩ e
    unfold sBkP at hz
    simp only [Bool.and_eq_true, beq_iff_eq, bne_iff_ne] at hz
    obtain ⟨z1, z2, z3⟩ := hz
    have hzs := SubB_and.mp z1
    obtain ⟨c1, c2, c3, c4⟩ := take_spec w f (his ||| z)
    rw [z3] at c1 c2 c3 c4
    have g1 := c4 his hs1.1 (fun b hb => by rw [Nat.testBit_or, hb]; rfl) hs1.2.2.1
    have g2 := a4 z c1 hzs c3
    rw [e] at g2
    exact z2 (sGat_inj (sOrd_nd A f) (fun b hb => (sOrd_mem w).mpr (c1 b hb)) (fun b hb => (sOrd_mem w).mpr (hs1.1 b hb)) (Nat.le_antisymm g2 g1))
  · intro hne
    refine ⟨sTk A f (S ||| Wt), ?_, ?_⟩
    · have := sub_le (SubB_and.mpr a2)
      omega
    · unfold sBkP
      simp only [Bool.and_eq_true, beq_iff_eq, bne_iff_ne]
      refine ⟨SubB_and.mpr a2, hne, ?_⟩
      refine take_uniq w a1 (fun b hb => by rw [Nat.testBit_or, hb, Bool.or_true]) a3 fun U u1 u2 u3 => ?_
      refine a4 U u1 (fun b hb => ?_) u3
      have := u2 b hb
      rw [Nat.testBit_or, Bool.or_eq_true] at this
      rcases this with q | q
      · exact hle b q
      · exact a2 b q
theorem n_inv (R : Nat) : nI R ^^^ -1 = nI (R ^^^ 4294967295) := by rw [n_m1, n_xor]
theorem and_inv {P R : Nat} (hP : P < 2 ^ 32) : P &&& (R ^^^ 4294967295) = 0 ↔ P &&& R = P := by
  rw [SubB_and]
  constructor
  · intro h b hb
    have hb32 := bits_lt hP hb
    have h1 : (P &&& (R ^^^ 4294967295)).testBit b = false := by rw [h]; simp
    rw [Nat.testBit_and, hb, xor_all hb32] at h1
    simpa using h1
  · intro h
    apply Nat.eq_of_testBit_eq
    intro b
    rw [Nat.testBit_and, Nat.zero_testBit]
    cases q : P.testBit b with
    | false => rfl
    | true =>
      rw [xor_all (bits_lt hP q), h b q]
      rfl
theorem e_Ma_leastBreaking {A : AS} {mv : Nat → Nat} {h : jHp} (x : MV A mv h) {o : Nat} (ho : o < 4) (S Wt : Nat) : f_Ma_leastBreaking [.ref 71, .int (nI o), .int (nI (slM A S)), .int (nI (slM A Wt))] h = some (some (.int (nI ((fst1 (lbP A mv o (prt o (slM A S)) (prt o (slM A (S ||| Wt)))) (prt o (slM A (S ||| Wt)) + 1)).getD 0))), h) := by
  have hs := x.1.1.1
  have w := x.1.1.2.1
  have hX := slM_lt w S
  have hZ := slM_lt w Wt
  have ep := e_B_partOf (h := h) ho hX
  have ep2 := e_B_partOf (h := h) ho hZ
  have hor : nI (prt o (slM A S)) ||| nI (prt o (slM A Wt)) = nI (prt o (slM A (S ||| Wt))) := by rw [n_or, slM_or, prt_or]
  have hR := prt_slM_lt w o (S ||| Wt)
  have hH := prt_slM_lt w o S
  have h8 := nOf_le w o
  have hp8 : 2 ^ nOf A o ≤ 256 := Nat.pow_le_pow_right (n := 2) (by decide) h8
  have step : ∀ P, P < prt o (slM A (S ||| Wt)) + 1 → lstp 1 2 lc_Ma_leastBreaking_1 lb_Ma_leastBreaking_1 lu_Ma_leastBreaking_1 ([.ref 71, .int (nI o), .int (nI (slM A S)), .int (nI (slM A Wt)), .int (nI (prt o (slM A S))), .int (nI (prt o (slM A (S ||| Wt)))), .int (nI P)], h) = some (if lbP A mv o (prt o (slM A S)) (prt o (slM A (S ||| Wt))) P = true then .inr (.inr (some (.int (nI P))), ([.ref 71, .int (nI o), .int (nI (slM A S)), .int (nI (slM A Wt)), .int (nI (prt o (slM A S))), .int (nI (prt o (slM A (S ||| Wt)))), .int (nI P)], h)) else .inl ([.ref 71, .int (nI o), .int (nI (slM A S)), .int (nI (slM A Wt)), .int (nI (prt o (slM A S))), .int (nI (prt o (slM A (S ||| Wt)))), .int (nI (P + 1))], h)) := by
    intro P hP
    have hP2 : P < 2 ^ nOf A o := by omega
    have ee := e_Ma_entry x ho (P := prt o (slM A S) ||| P) (Nat.or_lt_two_pow hH hP2)
    have hor2 : nI (prt o (slM A S)) ||| nI P = nI (prt o (slM A S) ||| P) := n_or _ _
    have hE : nI (tE A o (mv o) (prt o (slM A S) ||| P)) &&& nI 255 = nI (tP A o (mv o) (prt o (slM A S) ||| P)) := by rw [n_and, tE_and]
    have hne := n_neT (A := A) (o := o) (l := mv o) (P := prt o (slM A S) ||| P) (Q := P) (by omega)
    unfold lbP
    have hPR : P ≤ prt o (slM A (S ||| Wt)) := by omega
    have hai : (nI P &&& ~~~ nI (prt o (slM A (S ||| Wt))) = 0) = (P &&& prt o (slM A (S ||| Wt)) = P) := by
      rw [n_not, n_and, propext (n_eq0 (Nat.lt_of_le_of_lt Nat.and_le_left (by omega))), propext (and_inv (by omega))]
    have hq : (nI P = nI (prt o (slM A S))) = (P = prt o (slM A S)) := propext (n_eq (by omega) (by omega))
    generalize tE A o (mv o) (prt o (slM A S) ||| P) = E at *
    generalize tP A o (mv o) (prt o (slM A S) ||| P) = T at *
    generalize prt o (slM A S) ||| P = HP at *
    generalize prt o (slM A (S ||| Wt)) = R at *
    generalize prt o (slM A S) = H at *
    by_cases z1 : P &&& R = P
    · by_cases z2 : P = H
      · subst z2
        simp (disch := first | assumption | omega) [lstp, lc_Ma_leastBreaking_1, lb_Ma_leastBreaking_1, lu_Ma_leastBreaking_1, j_meth, j_out, j_rok, j_pad, lg_sl, s_seq_w, isN_inl, isN_inr, s_if, jb, x_c, x_iloc, x_aloc, x_lloc, x_bin, x_un, o_add, o_sub, o_mul, o_and, o_or, o_xor, o_shl, o_shr, o_ushr, o_max, o_min, o_i2b, o_i2c, o_i2l, o_l2i, x_fld, j_fget, x_idx, j_aget, x_len, j_alen, x_ofb, x_ite, xs_nil, xs_cons, x_callv, x_calls, s_callv, s_calls, j_recv, j_ret, j_retv, b_cmp, b_and, b_or, b_not, b_ofi, b_ite, b_true, s_skip, s_set, j_ty, j_lset, j_kill, s_inc, s_fput, j_fput, s_fop, s_aput, j_aput, j_nar, s_aop, s_ret, s_retv, s_go, s_pop, x_linc, x_finc, Value.category, if_icmp.holds, List.flatMap_cons, List.flatMap_nil, List.length_cons, List.length_append, List.length_nil, List.set_cons_succ, List.set_cons_zero, List.getElem?_cons_succ, List.getElem?_cons_zero, List.replicate, ite_and', ite_or', ite_int', nI_leI, nI_ltI, nI_eq, nI_add, nI_1, pk_mul, nI_clamp, n_in', nI_pos', nI_pos, n_m1e, n_01, n_10, sT_1, sR_1_0, sR_1_1, sR_1_2, sR_1_3, sR_1_4, sR_1_5, sR_1_6, sR_1_7, sR_1_8, sR_1_9, sT_2, sT_3, sT_4, sT_5, sT_6, sT_7, sT_8, sT_9, sT_10, sT_11, sT_12, sT_13, sT_14, sR_2_1, sR_2_2, sR_2_3, sR_2_4, sR_2_5, sR_2_6, sR_2_7, sR_2_8, sR_2_9, sR_2_10, sR_2_11, sR_2_12, sT_15, sT_16, sT_17, sT_18, sT_19, sT_20, sT_21, sT_22, sT_23, sR_15_1, sR_15_2, sR_15_3, sR_15_4, sR_15_5, sR_15_6, sR_15_7, sR_15_8, sT_24, sT_25, sT_26, sT_27, sT_28, sT_29, sR_24_1, sR_24_2, sR_24_3, sR_24_4, sR_24_5, sT_71, sT_72, sR_71_0, sR_71_1, sR_71_2, sR_71_3, sR_71_4, sT_73, sT_74, sT_75, sR_73_0, sR_73_1, sR_73_2, sR_73_3, sR_73_4, sR_73_5, sT_84, sT_85, sT_86, sT_87, sR_84_0, sR_84_1, sR_84_2, sR_84_3, sR_84_4, sR_84_5, sT_88, sT_89, sR_88_0, sT_90, sT_91, sR_90_0, hPR, hai, z1]
      · by_cases z3 : T = P
        · simp (disch := first | assumption | omega) [lstp, lc_Ma_leastBreaking_1, lb_Ma_leastBreaking_1, lu_Ma_leastBreaking_1, j_meth, j_out, j_rok, j_pad, lg_sl, s_seq_w, isN_inl, isN_inr, s_if, jb, x_c, x_iloc, x_aloc, x_lloc, x_bin, x_un, o_add, o_sub, o_mul, o_and, o_or, o_xor, o_shl, o_shr, o_ushr, o_max, o_min, o_i2b, o_i2c, o_i2l, o_l2i, x_fld, j_fget, x_idx, j_aget, x_len, j_alen, x_ofb, x_ite, xs_nil, xs_cons, x_callv, x_calls, s_callv, s_calls, j_recv, j_ret, j_retv, b_cmp, b_and, b_or, b_not, b_ofi, b_ite, b_true, s_skip, s_set, j_ty, j_lset, j_kill, s_inc, s_fput, j_fput, s_fop, s_aput, j_aput, j_nar, s_aop, s_ret, s_retv, s_go, s_pop, x_linc, x_finc, Value.category, if_icmp.holds, List.flatMap_cons, List.flatMap_nil, List.length_cons, List.length_append, List.length_nil, List.set_cons_succ, List.set_cons_zero, List.getElem?_cons_succ, List.getElem?_cons_zero, List.replicate, ite_and', ite_or', ite_int', nI_leI, nI_ltI, nI_eq, nI_add, nI_1, pk_mul, nI_clamp, n_in', nI_pos', nI_pos, n_m1e, n_01, n_10, sT_1, sR_1_0, sR_1_1, sR_1_2, sR_1_3, sR_1_4, sR_1_5, sR_1_6, sR_1_7, sR_1_8, sR_1_9, sT_2, sT_3, sT_4, sT_5, sT_6, sT_7, sT_8, sT_9, sT_10, sT_11, sT_12, sT_13, sT_14, sR_2_1, sR_2_2, sR_2_3, sR_2_4, sR_2_5, sR_2_6, sR_2_7, sR_2_8, sR_2_9, sR_2_10, sR_2_11, sR_2_12, sT_15, sT_16, sT_17, sT_18, sT_19, sT_20, sT_21, sT_22, sT_23, sR_15_1, sR_15_2, sR_15_3, sR_15_4, sR_15_5, sR_15_6, sR_15_7, sR_15_8, sT_24, sT_25, sT_26, sT_27, sT_28, sT_29, sR_24_1, sR_24_2, sR_24_3, sR_24_4, sR_24_5, sT_71, sT_72, sR_71_0, sR_71_1, sR_71_2, sR_71_3, sR_71_4, sT_73, sT_74, sT_75, sR_73_0, sR_73_1, sR_73_2, sR_73_3, sR_73_4, sR_73_5, sT_84, sT_85, sT_86, sT_87, sR_84_0, sR_84_1, sR_84_2, sR_84_3, sR_84_4, sR_84_5, sT_88, sT_89, sR_88_0, sT_90, sT_91, sR_90_0, hPR, hai, z1, hq, z2, hor2, ee, hE, hne, z3]
        · simp (disch := first | assumption | omega) [lstp, lc_Ma_leastBreaking_1, lb_Ma_leastBreaking_1, lu_Ma_leastBreaking_1, j_meth, j_out, j_rok, j_pad, lg_sl, s_seq_w, isN_inl, isN_inr, s_if, jb, x_c, x_iloc, x_aloc, x_lloc, x_bin, x_un, o_add, o_sub, o_mul, o_and, o_or, o_xor, o_shl, o_shr, o_ushr, o_max, o_min, o_i2b, o_i2c, o_i2l, o_l2i, x_fld, j_fget, x_idx, j_aget, x_len, j_alen, x_ofb, x_ite, xs_nil, xs_cons, x_callv, x_calls, s_callv, s_calls, j_recv, j_ret, j_retv, b_cmp, b_and, b_or, b_not, b_ofi, b_ite, b_true, s_skip, s_set, j_ty, j_lset, j_kill, s_inc, s_fput, j_fput, s_fop, s_aput, j_aput, j_nar, s_aop, s_ret, s_retv, s_go, s_pop, x_linc, x_finc, Value.category, if_icmp.holds, List.flatMap_cons, List.flatMap_nil, List.length_cons, List.length_append, List.length_nil, List.set_cons_succ, List.set_cons_zero, List.getElem?_cons_succ, List.getElem?_cons_zero, List.replicate, ite_and', ite_or', ite_int', nI_leI, nI_ltI, nI_eq, nI_add, nI_1, pk_mul, nI_clamp, n_in', nI_pos', nI_pos, n_m1e, n_01, n_10, sT_1, sR_1_0, sR_1_1, sR_1_2, sR_1_3, sR_1_4, sR_1_5, sR_1_6, sR_1_7, sR_1_8, sR_1_9, sT_2, sT_3, sT_4, sT_5, sT_6, sT_7, sT_8, sT_9, sT_10, sT_11, sT_12, sT_13, sT_14, sR_2_1, sR_2_2, sR_2_3, sR_2_4, sR_2_5, sR_2_6, sR_2_7, sR_2_8, sR_2_9, sR_2_10, sR_2_11, sR_2_12, sT_15, sT_16, sT_17, sT_18, sT_19, sT_20, sT_21, sT_22, sT_23, sR_15_1, sR_15_2, sR_15_3, sR_15_4, sR_15_5, sR_15_6, sR_15_7, sR_15_8, sT_24, sT_25, sT_26, sT_27, sT_28, sT_29, sR_24_1, sR_24_2, sR_24_3, sR_24_4, sR_24_5, sT_71, sT_72, sR_71_0, sR_71_1, sR_71_2, sR_71_3, sR_71_4, sT_73, sT_74, sT_75, sR_73_0, sR_73_1, sR_73_2, sR_73_3, sR_73_4, sR_73_5, sT_84, sT_85, sT_86, sT_87, sR_84_0, sR_84_1, sR_84_2, sR_84_3, sR_84_4, sR_84_5, sT_88, sT_89, sR_88_0, sT_90, sT_91, sR_90_0, hPR, hai, z1, hq, z2, hor2, ee, hE, hne, z3]
    · simp (disch := first | assumption | omega) [lstp, lc_Ma_leastBreaking_1, lb_Ma_leastBreaking_1, lu_Ma_leastBreaking_1, j_meth, j_out, j_rok, j_pad, lg_sl, s_seq_w, isN_inl, isN_inr, s_if, jb, x_c, x_iloc, x_aloc, x_lloc, x_bin, x_un, o_add, o_sub, o_mul, o_and, o_or, o_xor, o_shl, o_shr, o_ushr, o_max, o_min, o_i2b, o_i2c, o_i2l, o_l2i, x_fld, j_fget, x_idx, j_aget, x_len, j_alen, x_ofb, x_ite, xs_nil, xs_cons, x_callv, x_calls, s_callv, s_calls, j_recv, j_ret, j_retv, b_cmp, b_and, b_or, b_not, b_ofi, b_ite, b_true, s_skip, s_set, j_ty, j_lset, j_kill, s_inc, s_fput, j_fput, s_fop, s_aput, j_aput, j_nar, s_aop, s_ret, s_retv, s_go, s_pop, x_linc, x_finc, Value.category, if_icmp.holds, List.flatMap_cons, List.flatMap_nil, List.length_cons, List.length_append, List.length_nil, List.set_cons_succ, List.set_cons_zero, List.getElem?_cons_succ, List.getElem?_cons_zero, List.replicate, ite_and', ite_or', ite_int', nI_leI, nI_ltI, nI_eq, nI_add, nI_1, pk_mul, nI_clamp, n_in', nI_pos', nI_pos, n_m1e, n_01, n_10, sT_1, sR_1_0, sR_1_1, sR_1_2, sR_1_3, sR_1_4, sR_1_5, sR_1_6, sR_1_7, sR_1_8, sR_1_9, sT_2, sT_3, sT_4, sT_5, sT_6, sT_7, sT_8, sT_9, sT_10, sT_11, sT_12, sT_13, sT_14, sR_2_1, sR_2_2, sR_2_3, sR_2_4, sR_2_5, sR_2_6, sR_2_7, sR_2_8, sR_2_9, sR_2_10, sR_2_11, sR_2_12, sT_15, sT_16, sT_17, sT_18, sT_19, sT_20, sT_21, sT_22, sT_23, sR_15_1, sR_15_2, sR_15_3, sR_15_4, sR_15_5, sR_15_6, sR_15_7, sR_15_8, sT_24, sT_25, sT_26, sT_27, sT_28, sT_29, sR_24_1, sR_24_2, sR_24_3, sR_24_4, sR_24_5, sT_71, sT_72, sR_71_0, sR_71_1, sR_71_2, sR_71_3, sR_71_4, sT_73, sT_74, sT_75, sR_73_0, sR_73_1, sR_73_2, sR_73_3, sR_73_4, sR_73_5, sT_84, sT_85, sT_86, sT_87, sR_84_0, sR_84_1, sR_84_2, sR_84_3, sR_84_4, sR_84_5, sT_88, sT_89, sR_88_0, sT_90, sT_91, sR_90_0, hPR, hai, z1]
  generalize lbP A mv o (prt o (slM A S)) (prt o (slM A (S ||| Wt))) = pp at *
  have hL := loop_1s (lb := 1) (lc := 2) (c := lc_Ma_leastBreaking_1) (b := lb_Ma_leastBreaking_1) (u := lu_Ma_leastBreaking_1) (prt o (slM A (S ||| Wt)) + 1) (fun P => (([.ref 71, .int (nI o), .int (nI (slM A S)), .int (nI (slM A Wt)), .int (nI (prt o (slM A S))), .int (nI (prt o (slM A (S ||| Wt)))), .int (nI P)], h) : jS)) pp (fun P => (.inr (some (.int (nI P))), ([.ref 71, .int (nI o), .int (nI (slM A S)), .int (nI (slM A Wt)), .int (nI (prt o (slM A S))), .int (nI (prt o (slM A (S ||| Wt)))), .int (nI P)], h))) step
    (by
      generalize prt o (slM A (S ||| Wt)) = R at *
      have hn : ¬ R + 1 ≤ R := by omega
      simp (disch := first | assumption | omega) [lstp, lc_Ma_leastBreaking_1, lb_Ma_leastBreaking_1, lu_Ma_leastBreaking_1, j_meth, j_out, j_rok, j_pad, lg_sl, s_seq_w, isN_inl, isN_inr, s_if, jb, x_c, x_iloc, x_aloc, x_lloc, x_bin, x_un, o_add, o_sub, o_mul, o_and, o_or, o_xor, o_shl, o_shr, o_ushr, o_max, o_min, o_i2b, o_i2c, o_i2l, o_l2i, x_fld, j_fget, x_idx, j_aget, x_len, j_alen, x_ofb, x_ite, xs_nil, xs_cons, x_callv, x_calls, s_callv, s_calls, j_recv, j_ret, j_retv, b_cmp, b_and, b_or, b_not, b_ofi, b_ite, b_true, s_skip, s_set, j_ty, j_lset, j_kill, s_inc, s_fput, j_fput, s_fop, s_aput, j_aput, j_nar, s_aop, s_ret, s_retv, s_go, s_pop, x_linc, x_finc, Value.category, if_icmp.holds, List.flatMap_cons, List.flatMap_nil, List.length_cons, List.length_append, List.length_nil, List.set_cons_succ, List.set_cons_zero, List.getElem?_cons_succ, List.getElem?_cons_zero, List.replicate, ite_and', ite_or', ite_int', nI_leI, nI_ltI, nI_eq, nI_add, nI_1, pk_mul, nI_clamp, n_in', nI_pos', nI_pos, n_m1e, n_01, n_10, sT_1, sR_1_0, sR_1_1, sR_1_2, sR_1_3, sR_1_4, sR_1_5, sR_1_6, sR_1_7, sR_1_8, sR_1_9, sT_2, sT_3, sT_4, sT_5, sT_6, sT_7, sT_8, sT_9, sT_10, sT_11, sT_12, sT_13, sT_14, sR_2_1, sR_2_2, sR_2_3, sR_2_4, sR_2_5, sR_2_6, sR_2_7, sR_2_8, sR_2_9, sR_2_10, sR_2_11, sR_2_12, sT_15, sT_16, sT_17, sT_18, sT_19, sT_20, sT_21, sT_22, sT_23, sR_15_1, sR_15_2, sR_15_3, sR_15_4, sR_15_5, sR_15_6, sR_15_7, sR_15_8, sT_24, sT_25, sT_26, sT_27, sT_28, sT_29, sR_24_1, sR_24_2, sR_24_3, sR_24_4, sR_24_5, sT_71, sT_72, sR_71_0, sR_71_1, sR_71_2, sR_71_3, sR_71_4, sT_73, sT_74, sT_75, sR_73_0, sR_73_1, sR_73_2, sR_73_3, sR_73_4, sR_73_5, sT_84, sT_85, sT_86, sT_87, sR_84_0, sR_84_1, sR_84_2, sR_84_3, sR_84_4, sR_84_5, sT_88, sT_89, sR_88_0, sT_90, sT_91, sR_90_0, hn])
  cases hf : fst1 pp (prt o (slM A (S ||| Wt)) + 1) with
  | none =>
    rw [hf] at hL
    simp only [nI_0] at hL
    simp (disch := first | assumption | omega) [f_Ma_leastBreaking, body_Ma_leastBreaking, j_meth, j_out, j_rok, j_pad, lg_sl, s_seq_w, isN_inl, isN_inr, s_if, jb, x_c, x_iloc, x_aloc, x_lloc, x_bin, x_un, o_add, o_sub, o_mul, o_and, o_or, o_xor, o_shl, o_shr, o_ushr, o_max, o_min, o_i2b, o_i2c, o_i2l, o_l2i, x_fld, j_fget, x_idx, j_aget, x_len, j_alen, x_ofb, x_ite, xs_nil, xs_cons, x_callv, x_calls, s_callv, s_calls, j_recv, j_ret, j_retv, b_cmp, b_and, b_or, b_not, b_ofi, b_ite, b_true, s_skip, s_set, j_ty, j_lset, j_kill, s_inc, s_fput, j_fput, s_fop, s_aput, j_aput, j_nar, s_aop, s_ret, s_retv, s_go, s_pop, x_linc, x_finc, Value.category, if_icmp.holds, List.flatMap_cons, List.flatMap_nil, List.length_cons, List.length_append, List.length_nil, List.set_cons_succ, List.set_cons_zero, List.getElem?_cons_succ, List.getElem?_cons_zero, List.replicate, ite_and', ite_or', ite_int', nI_leI, nI_ltI, nI_eq, nI_add, nI_1, pk_mul, nI_clamp, n_in', nI_pos', nI_pos, n_m1e, n_01, n_10, sT_1, sR_1_0, sR_1_1, sR_1_2, sR_1_3, sR_1_4, sR_1_5, sR_1_6, sR_1_7, sR_1_8, sR_1_9, sT_2, sT_3, sT_4, sT_5, sT_6, sT_7, sT_8, sT_9, sT_10, sT_11, sT_12, sT_13, sT_14, sR_2_1, sR_2_2, sR_2_3, sR_2_4, sR_2_5, sR_2_6, sR_2_7, sR_2_8, sR_2_9, sR_2_10, sR_2_11, sR_2_12, sT_15, sT_16, sT_17, sT_18, sT_19, sT_20, sT_21, sT_22, sT_23, sR_15_1, sR_15_2, sR_15_3, sR_15_4, sR_15_5, sR_15_6, sR_15_7, sR_15_8, sT_24, sT_25, sT_26, sT_27, sT_28, sT_29, sR_24_1, sR_24_2, sR_24_3, sR_24_4, sR_24_5, sT_71, sT_72, sR_71_0, sR_71_1, sR_71_2, sR_71_3, sR_71_4, sT_73, sT_74, sT_75, sR_73_0, sR_73_1, sR_73_2, sR_73_3, sR_73_4, sR_73_5, sT_84, sT_85, sT_86, sT_87, sR_84_0, sR_84_1, sR_84_2, sR_84_3, sR_84_4, sR_84_5, sT_88, sT_89, sR_88_0, sT_90, sT_91, sR_90_0, ep, ep2, hor, nI_0, hL]
  | some i =>
    rw [hf] at hL
    simp only [nI_0] at hL
    simp (disch := first | assumption | omega) [f_Ma_leastBreaking, body_Ma_leastBreaking, j_meth, j_out, j_rok, j_pad, lg_sl, s_seq_w, isN_inl, isN_inr, s_if, jb, x_c, x_iloc, x_aloc, x_lloc, x_bin, x_un, o_add, o_sub, o_mul, o_and, o_or, o_xor, o_shl, o_shr, o_ushr, o_max, o_min, o_i2b, o_i2c, o_i2l, o_l2i, x_fld, j_fget, x_idx, j_aget, x_len, j_alen, x_ofb, x_ite, xs_nil, xs_cons, x_callv, x_calls, s_callv, s_calls, j_recv, j_ret, j_retv, b_cmp, b_and, b_or, b_not, b_ofi, b_ite, b_true, s_skip, s_set, j_ty, j_lset, j_kill, s_inc, s_fput, j_fput, s_fop, s_aput, j_aput, j_nar, s_aop, s_ret, s_retv, s_go, s_pop, x_linc, x_finc, Value.category, if_icmp.holds, List.flatMap_cons, List.flatMap_nil, List.length_cons, List.length_append, List.length_nil, List.set_cons_succ, List.set_cons_zero, List.getElem?_cons_succ, List.getElem?_cons_zero, List.replicate, ite_and', ite_or', ite_int', nI_leI, nI_ltI, nI_eq, nI_add, nI_1, pk_mul, nI_clamp, n_in', nI_pos', nI_pos, n_m1e, n_01, n_10, sT_1, sR_1_0, sR_1_1, sR_1_2, sR_1_3, sR_1_4, sR_1_5, sR_1_6, sR_1_7, sR_1_8, sR_1_9, sT_2, sT_3, sT_4, sT_5, sT_6, sT_7, sT_8, sT_9, sT_10, sT_11, sT_12, sT_13, sT_14, sR_2_1, sR_2_2, sR_2_3, sR_2_4, sR_2_5, sR_2_6, sR_2_7, sR_2_8, sR_2_9, sR_2_10, sR_2_11, sR_2_12, sT_15, sT_16, sT_17, sT_18, sT_19, sT_20, sT_21, sT_22, sT_23, sR_15_1, sR_15_2, sR_15_3, sR_15_4, sR_15_5, sR_15_6, sR_15_7, sR_15_8, sT_24, sT_25, sT_26, sT_27, sT_28, sT_29, sR_24_1, sR_24_2, sR_24_3, sR_24_4, sR_24_5, sT_71, sT_72, sR_71_0, sR_71_1, sR_71_2, sR_71_3, sR_71_4, sT_73, sT_74, sT_75, sR_73_0, sR_73_1, sR_73_2, sR_73_3, sR_73_4, sR_73_5, sT_84, sT_85, sT_86, sT_87, sR_84_0, sR_84_1, sR_84_2, sR_84_3, sR_84_4, sR_84_5, sT_88, sT_89, sR_88_0, sT_90, sT_91, sR_90_0, ep, ep2, hor, nI_0, hL]
