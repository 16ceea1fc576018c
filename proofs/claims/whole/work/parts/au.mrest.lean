/-! MATCHINGS: the rest -/
theorem e_Ma_breakingCouples {A : AS} {mv : Nat → Nat} {h : jHp} (x : MV A mv h) {S : Nat} (hS : S < 2 ^ aNb A) (hm : sMat A S) : f_Ma_breakingCouples [.ref 71, .int (nI S), .int (nI (slM A S))] h = some (some (.int (nI (cntN (fun c => (sBrP (aMv A mv) S c).isSome) (aNc A)))), h) := by
  have hs := x.1.1.1
  have w := x.1.1.2.1
  have cc := x.1.2
  have hc2 := w.2.2.2.2.1.1
  have c0 := cc.1
  have hL := loop_n (lb := 1) (lc := 2) (c := lc_Ma_breakingCouples_1) (b := lb_Ma_breakingCouples_1) (u := lu_Ma_breakingCouples_1) (aNc A) (fun c (m : Nat) => (([.ref 71, .int (nI S), .int (nI (slM A S)), .int (nI m), .int (nI c)], h) : jS)) (fun c m => if (sBrP (aMv A mv) S c).isSome then m + 1 else m) (fun c m => m ≤ c)
    (fun c m hc hmc => by
      have eb := e_Ma_breakingPair x hc hS hm
      have hlt : ∀ k, sBrP (aMv A mv) S c = some k → k < 9 := fun k hk => by
        have h1 := fst1_lt hk
        have hs' : (sRkc (aMv A mv) S c) = sRkc A S c := rfl
        rw [hs'] at h1
        cases hr : sRkc A S c with
        | none => rw [hr] at h1; simp at h1
        | some r =>
          rw [hr] at h1
          have := sRkc_lt w hr
          simp at h1
          omega
      cases hb : sBrP (aMv A mv) S c with
      | none =>
        rw [hb, oI_n] at eb
        refine ⟨by simp; omega, ?_⟩
        simp (disch := first | assumption | omega) [lstp, lc_Ma_breakingCouples_1, lb_Ma_breakingCouples_1, lu_Ma_breakingCouples_1, j_meth, j_out, j_rok, j_pad, lg_sl, s_seq_w, isN_inl, isN_inr, s_if, jb, x_c, x_iloc, x_aloc, x_lloc, x_bin, x_un, o_add, o_sub, o_mul, o_and, o_or, o_xor, o_shl, o_shr, o_ushr, o_max, o_min, o_i2b, o_i2c, o_i2l, o_l2i, x_fld, j_fget, x_idx, j_aget, x_len, j_alen, x_ofb, x_ite, xs_nil, xs_cons, x_callv, x_calls, s_callv, s_calls, j_recv, j_ret, j_retv, b_cmp, b_and, b_or, b_not, b_ofi, b_ite, b_true, s_skip, s_set, j_ty, j_lset, j_kill, s_inc, s_fput, j_fput, s_fop, s_aput, j_aput, j_nar, s_aop, s_ret, s_retv, s_go, s_pop, x_linc, x_finc, Value.category, if_icmp.holds, List.flatMap_cons, List.flatMap_nil, List.length_cons, List.length_append, List.length_nil, List.set_cons_succ, List.set_cons_zero, List.getElem?_cons_succ, List.getElem?_cons_zero, List.replicate, ite_and', ite_or', ite_int', nI_leI, nI_ltI, nI_eq, nI_add, nI_1, pk_mul, nI_clamp, n_in', nI_pos', nI_pos, n_m1e, n_01, n_10, sT_1, sR_1_0, sR_1_1, sR_1_2, sR_1_3, sR_1_4, sR_1_5, sR_1_6, sR_1_7, sR_1_8, sR_1_9, sT_2, sT_3, sT_4, sT_5, sT_6, sT_7, sT_8, sT_9, sT_10, sT_11, sT_12, sT_13, sT_14, sR_2_1, sR_2_2, sR_2_3, sR_2_4, sR_2_5, sR_2_6, sR_2_7, sR_2_8, sR_2_9, sR_2_10, sR_2_11, sR_2_12, sT_15, sT_16, sT_17, sT_18, sT_19, sT_20, sT_21, sT_22, sT_23, sR_15_1, sR_15_2, sR_15_3, sR_15_4, sR_15_5, sR_15_6, sR_15_7, sR_15_8, sT_24, sT_25, sT_26, sT_27, sT_28, sT_29, sR_24_1, sR_24_2, sR_24_3, sR_24_4, sR_24_5, sT_71, sT_72, sR_71_0, sR_71_1, sR_71_2, sR_71_3, sR_71_4, sT_73, sT_74, sT_75, sR_73_0, sR_73_1, sR_73_2, sR_73_3, sR_73_4, sR_73_5, sT_84, sT_85, sT_86, sT_87, sR_84_0, sR_84_1, sR_84_2, sR_84_3, sR_84_4, sR_84_5, sT_88, sT_89, sR_88_0, sT_90, sT_91, sR_90_0, c0, hc, eb]
      | some k =>
        rw [hb, oI_s] at eb
        have := hlt k hb
        have hne : (nI k = -1) = False := n_m1e (by omega)
        refine ⟨by simp; omega, ?_⟩
        simp (disch := first | assumption | omega) [lstp, lc_Ma_breakingCouples_1, lb_Ma_breakingCouples_1, lu_Ma_breakingCouples_1, j_meth, j_out, j_rok, j_pad, lg_sl, s_seq_w, isN_inl, isN_inr, s_if, jb, x_c, x_iloc, x_aloc, x_lloc, x_bin, x_un, o_add, o_sub, o_mul, o_and, o_or, o_xor, o_shl, o_shr, o_ushr, o_max, o_min, o_i2b, o_i2c, o_i2l, o_l2i, x_fld, j_fget, x_idx, j_aget, x_len, j_alen, x_ofb, x_ite, xs_nil, xs_cons, x_callv, x_calls, s_callv, s_calls, j_recv, j_ret, j_retv, b_cmp, b_and, b_or, b_not, b_ofi, b_ite, b_true, s_skip, s_set, j_ty, j_lset, j_kill, s_inc, s_fput, j_fput, s_fop, s_aput, j_aput, j_nar, s_aop, s_ret, s_retv, s_go, s_pop, x_linc, x_finc, Value.category, if_icmp.holds, List.flatMap_cons, List.flatMap_nil, List.length_cons, List.length_append, List.length_nil, List.set_cons_succ, List.set_cons_zero, List.getElem?_cons_succ, List.getElem?_cons_zero, List.replicate, ite_and', ite_or', ite_int', nI_leI, nI_ltI, nI_eq, nI_add, nI_1, pk_mul, nI_clamp, n_in', nI_pos', nI_pos, n_m1e, n_01, n_10, sT_1, sR_1_0, sR_1_1, sR_1_2, sR_1_3, sR_1_4, sR_1_5, sR_1_6, sR_1_7, sR_1_8, sR_1_9, sT_2, sT_3, sT_4, sT_5, sT_6, sT_7, sT_8, sT_9, sT_10, sT_11, sT_12, sT_13, sT_14, sR_2_1, sR_2_2, sR_2_3, sR_2_4, sR_2_5, sR_2_6, sR_2_7, sR_2_8, sR_2_9, sR_2_10, sR_2_11, sR_2_12, sT_15, sT_16, sT_17, sT_18, sT_19, sT_20, sT_21, sT_22, sT_23, sR_15_1, sR_15_2, sR_15_3, sR_15_4, sR_15_5, sR_15_6, sR_15_7, sR_15_8, sT_24, sT_25, sT_26, sT_27, sT_28, sT_29, sR_24_1, sR_24_2, sR_24_3, sR_24_4, sR_24_5, sT_71, sT_72, sR_71_0, sR_71_1, sR_71_2, sR_71_3, sR_71_4, sT_73, sT_74, sT_75, sR_73_0, sR_73_1, sR_73_2, sR_73_3, sR_73_4, sR_73_5, sT_84, sT_85, sT_86, sT_87, sR_84_0, sR_84_1, sR_84_2, sR_84_3, sR_84_4, sR_84_5, sT_88, sT_89, sR_88_0, sT_90, sT_91, sR_90_0, c0, hc, eb, hne])
    (fun m hmc => by simp (disch := first | assumption | omega) [lstp, lc_Ma_breakingCouples_1, lb_Ma_breakingCouples_1, lu_Ma_breakingCouples_1, j_meth, j_out, j_rok, j_pad, lg_sl, s_seq_w, isN_inl, isN_inr, s_if, jb, x_c, x_iloc, x_aloc, x_lloc, x_bin, x_un, o_add, o_sub, o_mul, o_and, o_or, o_xor, o_shl, o_shr, o_ushr, o_max, o_min, o_i2b, o_i2c, o_i2l, o_l2i, x_fld, j_fget, x_idx, j_aget, x_len, j_alen, x_ofb, x_ite, xs_nil, xs_cons, x_callv, x_calls, s_callv, s_calls, j_recv, j_ret, j_retv, b_cmp, b_and, b_or, b_not, b_ofi, b_ite, b_true, s_skip, s_set, j_ty, j_lset, j_kill, s_inc, s_fput, j_fput, s_fop, s_aput, j_aput, j_nar, s_aop, s_ret, s_retv, s_go, s_pop, x_linc, x_finc, Value.category, if_icmp.holds, List.flatMap_cons, List.flatMap_nil, List.length_cons, List.length_append, List.length_nil, List.set_cons_succ, List.set_cons_zero, List.getElem?_cons_succ, List.getElem?_cons_zero, List.replicate, ite_and', ite_or', ite_int', nI_leI, nI_ltI, nI_eq, nI_add, nI_1, pk_mul, nI_clamp, n_in', nI_pos', nI_pos, n_m1e, n_01, n_10, sT_1, sR_1_0, sR_1_1, sR_1_2, sR_1_3, sR_1_4, sR_1_5, sR_1_6, sR_1_7, sR_1_8, sR_1_9, sT_2, sT_3, sT_4, sT_5, sT_6, sT_7, sT_8, sT_9, sT_10, sT_11, sT_12, sT_13, sT_14, sR_2_1, sR_2_2, sR_2_3, sR_2_4, sR_2_5, sR_2_6, sR_2_7, sR_2_8, sR_2_9, sR_2_10, sR_2_11, sR_2_12, sT_15, sT_16, sT_17, sT_18, sT_19, sT_20, sT_21, sT_22, sT_23, sR_15_1, sR_15_2, sR_15_3, sR_15_4, sR_15_5, sR_15_6, sR_15_7, sR_15_8, sT_24, sT_25, sT_26, sT_27, sT_28, sT_29, sR_24_1, sR_24_2, sR_24_3, sR_24_4, sR_24_5, sT_71, sT_72, sR_71_0, sR_71_1, sR_71_2, sR_71_3, sR_71_4, sT_73, sT_74, sT_75, sR_73_0, sR_73_1, sR_73_2, sR_73_3, sR_73_4, sR_73_5, sT_84, sT_85, sT_86, sT_87, sR_84_0, sR_84_1, sR_84_2, sR_84_3, sR_84_4, sR_84_5, sT_88, sT_89, sR_88_0, sT_90, sT_91, sR_90_0, c0]) 0 (Nat.le_refl _)
  have hcn : nfo (fun c m => if (sBrP (aMv A mv) S c).isSome then m + 1 else m) (aNc A) 0 = cntN (fun c => (sBrP (aMv A mv) S c).isSome) (aNc A) := rfl
  rw [hcn] at hL
  generalize cntN (fun c => (sBrP (aMv A mv) S c).isSome) (aNc A) = R at *
  simp only [nI_0] at hL
  simp (disch := first | assumption | omega) [f_Ma_breakingCouples, body_Ma_breakingCouples, j_meth, j_out, j_rok, j_pad, lg_sl, s_seq_w, isN_inl, isN_inr, s_if, jb, x_c, x_iloc, x_aloc, x_lloc, x_bin, x_un, o_add, o_sub, o_mul, o_and, o_or, o_xor, o_shl, o_shr, o_ushr, o_max, o_min, o_i2b, o_i2c, o_i2l, o_l2i, x_fld, j_fget, x_idx, j_aget, x_len, j_alen, x_ofb, x_ite, xs_nil, xs_cons, x_callv, x_calls, s_callv, s_calls, j_recv, j_ret, j_retv, b_cmp, b_and, b_or, b_not, b_ofi, b_ite, b_true, s_skip, s_set, j_ty, j_lset, j_kill, s_inc, s_fput, j_fput, s_fop, s_aput, j_aput, j_nar, s_aop, s_ret, s_retv, s_go, s_pop, x_linc, x_finc, Value.category, if_icmp.holds, List.flatMap_cons, List.flatMap_nil, List.length_cons, List.length_append, List.length_nil, List.set_cons_succ, List.set_cons_zero, List.getElem?_cons_succ, List.getElem?_cons_zero, List.replicate, ite_and', ite_or', ite_int', nI_leI, nI_ltI, nI_eq, nI_add, nI_1, pk_mul, nI_clamp, n_in', nI_pos', nI_pos, n_m1e, n_01, n_10, sT_1, sR_1_0, sR_1_1, sR_1_2, sR_1_3, sR_1_4, sR_1_5, sR_1_6, sR_1_7, sR_1_8, sR_1_9, sT_2, sT_3, sT_4, sT_5, sT_6, sT_7, sT_8, sT_9, sT_10, sT_11, sT_12, sT_13, sT_14, sR_2_1, sR_2_2, sR_2_3, sR_2_4, sR_2_5, sR_2_6, sR_2_7, sR_2_8, sR_2_9, sR_2_10, sR_2_11, sR_2_12, sT_15, sT_16, sT_17, sT_18, sT_19, sT_20, sT_21, sT_22, sT_23, sR_15_1, sR_15_2, sR_15_3, sR_15_4, sR_15_5, sR_15_6, sR_15_7, sR_15_8, sT_24, sT_25, sT_26, sT_27, sT_28, sT_29, sR_24_1, sR_24_2, sR_24_3, sR_24_4, sR_24_5, sT_71, sT_72, sR_71_0, sR_71_1, sR_71_2, sR_71_3, sR_71_4, sT_73, sT_74, sT_75, sR_73_0, sR_73_1, sR_73_2, sR_73_3, sR_73_4, sR_73_5, sT_84, sT_85, sT_86, sT_87, sR_84_0, sR_84_1, sR_84_2, sR_84_3, sR_84_4, sR_84_5, sT_88, sT_89, sR_88_0, sT_90, sT_91, sR_90_0, nI_0, hL]
theorem e_B_indexOf {A : AS} {h : jHp} (x : CX A h) {b : Nat} (hb : b < aNb A) : f_B_indexOf [.ref 2, .int (nI b)] h = some (some (.int (nI (sIdx A b))), h) := by
  obtain ⟨hs, w, cb, -⟩ := x
  have h20 := w.2.2.1.1
  obtain ⟨-, e4, -, -, -, e8, -⟩ := cb.2.1 b hb
  have hsu : nI (sSlot A b) - nI (aOf A b * 8) = nI (sIdx A b) := by
    unfold sSlot
    rw [pk_sub (by omega)]
    congr 1
    omega
  simp (disch := first | assumption | omega) [f_B_indexOf, body_B_indexOf, j_meth, j_out, j_rok, j_pad, lg_sl, s_seq_w, isN_inl, isN_inr, s_if, jb, x_c, x_iloc, x_aloc, x_lloc, x_bin, x_un, o_add, o_sub, o_mul, o_and, o_or, o_xor, o_shl, o_shr, o_ushr, o_max, o_min, o_i2b, o_i2c, o_i2l, o_l2i, x_fld, j_fget, x_idx, j_aget, x_len, j_alen, x_ofb, x_ite, xs_nil, xs_cons, x_callv, x_calls, s_callv, s_calls, j_recv, j_ret, j_retv, b_cmp, b_and, b_or, b_not, b_ofi, b_ite, b_true, s_skip, s_set, j_ty, j_lset, j_kill, s_inc, s_fput, j_fput, s_fop, s_aput, j_aput, j_nar, s_aop, s_ret, s_retv, s_go, s_pop, x_linc, x_finc, Value.category, if_icmp.holds, List.flatMap_cons, List.flatMap_nil, List.length_cons, List.length_append, List.length_nil, List.set_cons_succ, List.set_cons_zero, List.getElem?_cons_succ, List.getElem?_cons_zero, List.replicate, ite_and', ite_or', ite_int', nI_leI, nI_ltI, nI_eq, nI_add, nI_1, pk_mul, nI_clamp, n_in', nI_pos', nI_pos, n_m1e, n_01, n_10, sT_1, sR_1_0, sR_1_1, sR_1_2, sR_1_3, sR_1_4, sR_1_5, sR_1_6, sR_1_7, sR_1_8, sR_1_9, sT_2, sT_3, sT_4, sT_5, sT_6, sT_7, sT_8, sT_9, sT_10, sT_11, sT_12, sT_13, sT_14, sR_2_1, sR_2_2, sR_2_3, sR_2_4, sR_2_5, sR_2_6, sR_2_7, sR_2_8, sR_2_9, sR_2_10, sR_2_11, sR_2_12, sT_15, sT_16, sT_17, sT_18, sT_19, sT_20, sT_21, sT_22, sT_23, sR_15_1, sR_15_2, sR_15_3, sR_15_4, sR_15_5, sR_15_6, sR_15_7, sR_15_8, sT_24, sT_25, sT_26, sT_27, sT_28, sT_29, sR_24_1, sR_24_2, sR_24_3, sR_24_4, sR_24_5, sT_71, sT_72, sR_71_0, sR_71_1, sR_71_2, sR_71_3, sR_71_4, sT_73, sT_74, sT_75, sR_73_0, sR_73_1, sR_73_2, sR_73_3, sR_73_4, sR_73_5, sT_84, sT_85, sT_86, sT_87, sR_84_0, sR_84_1, sR_84_2, sR_84_3, sR_84_4, sR_84_5, sT_88, sT_89, sR_88_0, sT_90, sT_91, sR_90_0, e4, e8, hsu]
theorem slM_1 {A : AS} (w : WF A) {b : Nat} (hb : b < aNb A) : slM A (2 ^ b) = 2 ^ sSlot A b := by
  apply Nat.eq_of_testBit_eq
  intro j
  have h := slM_bit A (2 ^ b) (aNb A) j
  unfold slM
  rw [Bool.eq_iff_iff, h, Nat.testBit_two_pow, decide_eq_true_iff]
  constructor
  · rintro ⟨c, -, c2, c3⟩
    rw [Nat.testBit_two_pow, decide_eq_true_iff] at c2
    rw [c2]; exact c3
  · intro e
    exact ⟨b, hb, by rw [Nat.testBit_two_pow]; simp, e⟩
theorem tk_bit {A : AS} (w : WF A) (mv : Nat → Nat) {b S : Nat} (hb : b < aNb A) : (tP A (aOf A b) (mv (aOf A b)) (prt (aOf A b) (slM A S))).testBit (sIdx A b) = (sTk (aMv A mv) (aOf A b) S).testBit b := by
  have ht := (tP_spec w (l := mv (aOf A b)) (prt_slM_lt w (aOf A b) S)).1
  have h1 := pS_bit w ht (sIdx_lt w hb).1
  rw [tPm_set w mv, bAt_idx w hb] at h1
  exact h1.symm
/-- BONDS that break -/
def obP (A : AS) (B : AS) (S Wt b : Nat) : Bool := Wt.testBit b && (sTk B (aOf A b) (S ||| 2 ^ b)).testBit b
theorem e_Ma_breakingBonds {A : AS} {mv : Nat → Nat} {h : jHp} (x : MV A mv h) (S Wt : Nat) : f_Ma_breakingBonds [.ref 71, .int (nI (slM A S)), .int (nI (slM A Wt))] h = some (some (.int (nI (cntN (obP A (aMv A mv) S Wt) (aNb A)))), h) := by
  have hs := x.1.1.1
  have w := x.1.1.2.1
  have cb := x.1.1.2.2.1
  have h20 := w.2.2.1.1
  have hno := w.2.1
  have c0 := cb.1
  have hL := loop_wp (lb := 1) (lc := 2) (c := lc_Ma_breakingBonds_1) (b := lb_Ma_breakingBonds_1) (u := lu_Ma_breakingBonds_1) (aNb A)
    (fun b st => ∃ v5 v6 v7, st = ([.ref 71, .int (nI (slM A S)), .int (nI (slM A Wt)), .int (nI (cntN (obP A (aMv A mv) S Wt) b)), .int (nI b), v5, v6, v7], h))
    (fun r => ∃ v5 v6 v7, r = (.inl 0, ([.ref 71, .int (nI (slM A S)), .int (nI (slM A Wt)), .int (nI (cntN (obP A (aMv A mv) S Wt) (aNb A))), .int (nI (aNb A)), v5, v6, v7], h)))
    ?_ ?_ ([.ref 71, .int (nI (slM A S)), .int (nI (slM A Wt)), .int (nI 0), .int (nI 0), .null, .null, .null], h) ⟨_, _, _, rfl⟩
  · obtain ⟨r, e, v5, v6, v7, rfl⟩ := hL
    generalize cntN (obP A (aMv A mv) S Wt) (aNb A) = R at *
    simp only [nI_0] at e
    simp (disch := first | assumption | omega) [f_Ma_breakingBonds, body_Ma_breakingBonds, j_meth, j_out, j_rok, j_pad, lg_sl, s_seq_w, isN_inl, isN_inr, s_if, jb, x_c, x_iloc, x_aloc, x_lloc, x_bin, x_un, o_add, o_sub, o_mul, o_and, o_or, o_xor, o_shl, o_shr, o_ushr, o_max, o_min, o_i2b, o_i2c, o_i2l, o_l2i, x_fld, j_fget, x_idx, j_aget, x_len, j_alen, x_ofb, x_ite, xs_nil, xs_cons, x_callv, x_calls, s_callv, s_calls, j_recv, j_ret, j_retv, b_cmp, b_and, b_or, b_not, b_ofi, b_ite, b_true, s_skip, s_set, j_ty, j_lset, j_kill, s_inc, s_fput, j_fput, s_fop, s_aput, j_aput, j_nar, s_aop, s_ret, s_retv, s_go, s_pop, x_linc, x_finc, Value.category, if_icmp.holds, List.flatMap_cons, List.flatMap_nil, List.length_cons, List.length_append, List.length_nil, List.set_cons_succ, List.set_cons_zero, List.getElem?_cons_succ, List.getElem?_cons_zero, List.replicate, ite_and', ite_or', ite_int', nI_leI, nI_ltI, nI_eq, nI_add, nI_1, pk_mul, nI_clamp, n_in', nI_pos', nI_pos, n_m1e, n_01, n_10, sT_1, sR_1_0, sR_1_1, sR_1_2, sR_1_3, sR_1_4, sR_1_5, sR_1_6, sR_1_7, sR_1_8, sR_1_9, sT_2, sT_3, sT_4, sT_5, sT_6, sT_7, sT_8, sT_9, sT_10, sT_11, sT_12, sT_13, sT_14, sR_2_1, sR_2_2, sR_2_3, sR_2_4, sR_2_5, sR_2_6, sR_2_7, sR_2_8, sR_2_9, sR_2_10, sR_2_11, sR_2_12, sT_15, sT_16, sT_17, sT_18, sT_19, sT_20, sT_21, sT_22, sT_23, sR_15_1, sR_15_2, sR_15_3, sR_15_4, sR_15_5, sR_15_6, sR_15_7, sR_15_8, sT_24, sT_25, sT_26, sT_27, sT_28, sT_29, sR_24_1, sR_24_2, sR_24_3, sR_24_4, sR_24_5, sT_71, sT_72, sR_71_0, sR_71_1, sR_71_2, sR_71_3, sR_71_4, sT_73, sT_74, sT_75, sR_73_0, sR_73_1, sR_73_2, sR_73_3, sR_73_4, sR_73_5, sT_84, sT_85, sT_86, sT_87, sR_84_0, sR_84_1, sR_84_2, sR_84_3, sR_84_4, sR_84_5, sT_88, sT_89, sR_88_0, sT_90, sT_91, sR_90_0, nI_0, e]
  · rintro b st hb ⟨v5, v6, v7, rfl⟩
    left
    obtain ⟨-, e4, -, -, -, e8, -⟩ := cb.2.1 b hb
    have hsl := sSlot_lt w hb
    have hof := (w.2.2.1.2.1 b hb).2.1
    have hsh := n_shl 1 (k := sSlot A b) hsl
    rw [Nat.one_mul] at hsh
    have hcs : cntN (obP A (aMv A mv) S Wt) (b + 1) = if obP A (aMv A mv) S Wt b = true then cntN (obP A (aMv A mv) S Wt) b + 1 else cntN (obP A (aMv A mv) S Wt) b := rfl
    rw [hcs]
    have hcl := cntN_le (obP A (aMv A mv) S Wt) b
    generalize cntN (obP A (aMv A mv) S Wt) b = M at *
    unfold obP
    have hwb : (slM A Wt).testBit (sSlot A b) = Wt.testBit b := slM_b w Wt hb
    have hand : nI (slM A Wt) &&& nI (2 ^ sSlot A b) = nI ((Wt.testBit b).toNat * 2 ^ sSlot A b) := by rw [n_and, and_two_pow, hwb]
    have hor : nI (slM A S) ||| nI (2 ^ sSlot A b) = nI (slM A (S ||| 2 ^ b)) := by rw [n_or, slM_or, slM_1 w hb]
    have ep := e_B_partOf (h := h) (f := aOf A b) (by omega) (slM_lt w (S ||| 2 ^ b))
    have ee := e_Ma_entryT x (S := S ||| 2 ^ b) (o := aOf A b) (by omega)
    have hE : nI (tE A (aOf A b) (mv (aOf A b)) (prt (aOf A b) (slM A (S ||| 2 ^ b)))) &&& nI 255 = nI (tP A (aOf A b) (mv (aOf A b)) (prt (aOf A b) (slM A (S ||| 2 ^ b)))) := by rw [n_and, tE_and]
    have ei := e_B_indexOf x.1.1 hb
    have hix := (sIdx_lt w hb).2
    have t256 := tP_256 A (aOf A b) (mv (aOf A b)) (prt (aOf A b) (slM A (S ||| 2 ^ b)))
    have hbt := n_bit (a := tP A (aOf A b) (mv (aOf A b)) (prt (aOf A b) (slM A (S ||| 2 ^ b)))) (k := sIdx A b) (by omega) (by omega)
    rw [tk_bit w mv hb] at hbt
    have hne : (nI (2 ^ sSlot A b) = 0) = False := by
      have hp := Nat.two_pow_pos (sSlot A b)
      have h7 : 2 ^ sSlot A b < 2 ^ 32 := Nat.pow_lt_pow_right (by decide) hsl
      exact eq_false fun e => by
        have := (n_eq0 h7).mp e
        omega
    generalize tE A (aOf A b) (mv (aOf A b)) (prt (aOf A b) (slM A (S ||| 2 ^ b))) = E at *
    generalize tP A (aOf A b) (mv (aOf A b)) (prt (aOf A b) (slM A (S ||| 2 ^ b))) = T at *
    generalize prt (aOf A b) (slM A (S ||| 2 ^ b)) = Q at *
    generalize (sTk (aMv A mv) (aOf A b) (S ||| 2 ^ b)).testBit b = tb at *
    generalize 2 ^ sSlot A b = sb at *
    have h00 : (nI 0 = 0) = True := by decide
    cases hw : Wt.testBit b with
    | false =>
      rw [hw] at hand
      simp only [Bool.toNat_false, Nat.zero_mul] at hand
      refine ⟨([.ref 71, .int (nI (slM A S)), .int (nI (slM A Wt)), .int (nI M), .int (nI (b + 1)), .int (nI sb), v6, v7], h), ?_, _, _, _, rfl⟩
      simp (disch := first | assumption | omega) [lstp, lc_Ma_breakingBonds_1, lb_Ma_breakingBonds_1, lu_Ma_breakingBonds_1, j_meth, j_out, j_rok, j_pad, lg_sl, s_seq_w, isN_inl, isN_inr, s_if, jb, x_c, x_iloc, x_aloc, x_lloc, x_bin, x_un, o_add, o_sub, o_mul, o_and, o_or, o_xor, o_shl, o_shr, o_ushr, o_max, o_min, o_i2b, o_i2c, o_i2l, o_l2i, x_fld, j_fget, x_idx, j_aget, x_len, j_alen, x_ofb, x_ite, xs_nil, xs_cons, x_callv, x_calls, s_callv, s_calls, j_recv, j_ret, j_retv, b_cmp, b_and, b_or, b_not, b_ofi, b_ite, b_true, s_skip, s_set, j_ty, j_lset, j_kill, s_inc, s_fput, j_fput, s_fop, s_aput, j_aput, j_nar, s_aop, s_ret, s_retv, s_go, s_pop, x_linc, x_finc, Value.category, if_icmp.holds, List.flatMap_cons, List.flatMap_nil, List.length_cons, List.length_append, List.length_nil, List.set_cons_succ, List.set_cons_zero, List.getElem?_cons_succ, List.getElem?_cons_zero, List.replicate, ite_and', ite_or', ite_int', nI_leI, nI_ltI, nI_eq, nI_add, nI_1, pk_mul, nI_clamp, n_in', nI_pos', nI_pos, n_m1e, n_01, n_10, sT_1, sR_1_0, sR_1_1, sR_1_2, sR_1_3, sR_1_4, sR_1_5, sR_1_6, sR_1_7, sR_1_8, sR_1_9, sT_2, sT_3, sT_4, sT_5, sT_6, sT_7, sT_8, sT_9, sT_10, sT_11, sT_12, sT_13, sT_14, sR_2_1, sR_2_2, sR_2_3, sR_2_4, sR_2_5, sR_2_6, sR_2_7, sR_2_8, sR_2_9, sR_2_10, sR_2_11, sR_2_12, sT_15, sT_16, sT_17, sT_18, sT_19, sT_20, sT_21, sT_22, sT_23, sR_15_1, sR_15_2, sR_15_3, sR_15_4, sR_15_5, sR_15_6, sR_15_7, sR_15_8, sT_24, sT_25, sT_26, sT_27, sT_28, sT_29, sR_24_1, sR_24_2, sR_24_3, sR_24_4, sR_24_5, sT_71, sT_72, sR_71_0, sR_71_1, sR_71_2, sR_71_3, sR_71_4, sT_73, sT_74, sT_75, sR_73_0, sR_73_1, sR_73_2, sR_73_3, sR_73_4, sR_73_5, sT_84, sT_85, sT_86, sT_87, sR_84_0, sR_84_1, sR_84_2, sR_84_3, sR_84_4, sR_84_5, sT_88, sT_89, sR_88_0, sT_90, sT_91, sR_90_0, c0, hb, e8, hsh, hand, h00]
    | true =>
      rw [hw] at hand
      simp only [Bool.toNat_true, Nat.one_mul] at hand
      refine ⟨([.ref 71, .int (nI (slM A S)), .int (nI (slM A Wt)), .int (nI (if tb = true then M + 1 else M)), .int (nI (b + 1)), .int (nI sb), .int (nI (aOf A b)), .int (nI T)], h), ?_, _, _, _, by rw [Bool.true_and]⟩
      cases tb with
      | false =>
        simp only [Bool.toNat_false] at hbt
        simp (disch := first | assumption | omega) [lstp, lc_Ma_breakingBonds_1, lb_Ma_breakingBonds_1, lu_Ma_breakingBonds_1, j_meth, j_out, j_rok, j_pad, lg_sl, s_seq_w, isN_inl, isN_inr, s_if, jb, x_c, x_iloc, x_aloc, x_lloc, x_bin, x_un, o_add, o_sub, o_mul, o_and, o_or, o_xor, o_shl, o_shr, o_ushr, o_max, o_min, o_i2b, o_i2c, o_i2l, o_l2i, x_fld, j_fget, x_idx, j_aget, x_len, j_alen, x_ofb, x_ite, xs_nil, xs_cons, x_callv, x_calls, s_callv, s_calls, j_recv, j_ret, j_retv, b_cmp, b_and, b_or, b_not, b_ofi, b_ite, b_true, s_skip, s_set, j_ty, j_lset, j_kill, s_inc, s_fput, j_fput, s_fop, s_aput, j_aput, j_nar, s_aop, s_ret, s_retv, s_go, s_pop, x_linc, x_finc, Value.category, if_icmp.holds, List.flatMap_cons, List.flatMap_nil, List.length_cons, List.length_append, List.length_nil, List.set_cons_succ, List.set_cons_zero, List.getElem?_cons_succ, List.getElem?_cons_zero, List.replicate, ite_and', ite_or', ite_int', nI_leI, nI_ltI, nI_eq, nI_add, nI_1, pk_mul, nI_clamp, n_in', nI_pos', nI_pos, n_m1e, n_01, n_10, sT_1, sR_1_0, sR_1_1, sR_1_2, sR_1_3, sR_1_4, sR_1_5, sR_1_6, sR_1_7, sR_1_8, sR_1_9, sT_2, sT_3, sT_4, sT_5, sT_6, sT_7, sT_8, sT_9, sT_10, sT_11, sT_12, sT_13, sT_14, sR_2_1, sR_2_2, sR_2_3, sR_2_4, sR_2_5, sR_2_6, sR_2_7, sR_2_8, sR_2_9, sR_2_10, sR_2_11, sR_2_12, sT_15, sT_16, sT_17, sT_18, sT_19, sT_20, sT_21, sT_22, sT_23, sR_15_1, sR_15_2, sR_15_3, sR_15_4, sR_15_5, sR_15_6, sR_15_7, sR_15_8, sT_24, sT_25, sT_26, sT_27, sT_28, sT_29, sR_24_1, sR_24_2, sR_24_3, sR_24_4, sR_24_5, sT_71, sT_72, sR_71_0, sR_71_1, sR_71_2, sR_71_3, sR_71_4, sT_73, sT_74, sT_75, sR_73_0, sR_73_1, sR_73_2, sR_73_3, sR_73_4, sR_73_5, sT_84, sT_85, sT_86, sT_87, sR_84_0, sR_84_1, sR_84_2, sR_84_3, sR_84_4, sR_84_5, sT_88, sT_89, sR_88_0, sT_90, sT_91, sR_90_0, c0, hb, e8, hsh, hand, hne, e4, hor, ep, ee, hE, ei, hbt]
      | true =>
        simp only [Bool.toNat_true] at hbt
        simp (disch := first | assumption | omega) [lstp, lc_Ma_breakingBonds_1, lb_Ma_breakingBonds_1, lu_Ma_breakingBonds_1, j_meth, j_out, j_rok, j_pad, lg_sl, s_seq_w, isN_inl, isN_inr, s_if, jb, x_c, x_iloc, x_aloc, x_lloc, x_bin, x_un, o_add, o_sub, o_mul, o_and, o_or, o_xor, o_shl, o_shr, o_ushr, o_max, o_min, o_i2b, o_i2c, o_i2l, o_l2i, x_fld, j_fget, x_idx, j_aget, x_len, j_alen, x_ofb, x_ite, xs_nil, xs_cons, x_callv, x_calls, s_callv, s_calls, j_recv, j_ret, j_retv, b_cmp, b_and, b_or, b_not, b_ofi, b_ite, b_true, s_skip, s_set, j_ty, j_lset, j_kill, s_inc, s_fput, j_fput, s_fop, s_aput, j_aput, j_nar, s_aop, s_ret, s_retv, s_go, s_pop, x_linc, x_finc, Value.category, if_icmp.holds, List.flatMap_cons, List.flatMap_nil, List.length_cons, List.length_append, List.length_nil, List.set_cons_succ, List.set_cons_zero, List.getElem?_cons_succ, List.getElem?_cons_zero, List.replicate, ite_and', ite_or', ite_int', nI_leI, nI_ltI, nI_eq, nI_add, nI_1, pk_mul, nI_clamp, n_in', nI_pos', nI_pos, n_m1e, n_01, n_10, sT_1, sR_1_0, sR_1_1, sR_1_2, sR_1_3, sR_1_4, sR_1_5, sR_1_6, sR_1_7, sR_1_8, sR_1_9, sT_2, sT_3, sT_4, sT_5, sT_6, sT_7, sT_8, sT_9, sT_10, sT_11, sT_12, sT_13, sT_14, sR_2_1, sR_2_2, sR_2_3, sR_2_4, sR_2_5, sR_2_6, sR_2_7, sR_2_8, sR_2_9, sR_2_10, sR_2_11, sR_2_12, sT_15, sT_16, sT_17, sT_18, sT_19, sT_20, sT_21, sT_22, sT_23, sR_15_1, sR_15_2, sR_15_3, sR_15_4, sR_15_5, sR_15_6, sR_15_7, sR_15_8, sT_24, sT_25, sT_26, sT_27, sT_28, sT_29, sR_24_1, sR_24_2, sR_24_3, sR_24_4, sR_24_5, sT_71, sT_72, sR_71_0, sR_71_1, sR_71_2, sR_71_3, sR_71_4, sT_73, sT_74, sT_75, sR_73_0, sR_73_1, sR_73_2, sR_73_3, sR_73_4, sR_73_5, sT_84, sT_85, sT_86, sT_87, sR_84_0, sR_84_1, sR_84_2, sR_84_3, sR_84_4, sR_84_5, sT_88, sT_89, sR_88_0, sT_90, sT_91, sR_90_0, c0, hb, e8, hsh, hand, hne, e4, hor, ep, ee, hE, ei, hbt]
  · rintro st ⟨v5, v6, v7, rfl⟩
    refine ⟨_, ?_, v5, v6, v7, rfl⟩
    simp (disch := first | assumption | omega) [lstp, lc_Ma_breakingBonds_1, lb_Ma_breakingBonds_1, lu_Ma_breakingBonds_1, j_meth, j_out, j_rok, j_pad, lg_sl, s_seq_w, isN_inl, isN_inr, s_if, jb, x_c, x_iloc, x_aloc, x_lloc, x_bin, x_un, o_add, o_sub, o_mul, o_and, o_or, o_xor, o_shl, o_shr, o_ushr, o_max, o_min, o_i2b, o_i2c, o_i2l, o_l2i, x_fld, j_fget, x_idx, j_aget, x_len, j_alen, x_ofb, x_ite, xs_nil, xs_cons, x_callv, x_calls, s_callv, s_calls, j_recv, j_ret, j_retv, b_cmp, b_and, b_or, b_not, b_ofi, b_ite, b_true, s_skip, s_set, j_ty, j_lset, j_kill, s_inc, s_fput, j_fput, s_fop, s_aput, j_aput, j_nar, s_aop, s_ret, s_retv, s_go, s_pop, x_linc, x_finc, Value.category, if_icmp.holds, List.flatMap_cons, List.flatMap_nil, List.length_cons, List.length_append, List.length_nil, List.set_cons_succ, List.set_cons_zero, List.getElem?_cons_succ, List.getElem?_cons_zero, List.replicate, ite_and', ite_or', ite_int', nI_leI, nI_ltI, nI_eq, nI_add, nI_1, pk_mul, nI_clamp, n_in', nI_pos', nI_pos, n_m1e, n_01, n_10, sT_1, sR_1_0, sR_1_1, sR_1_2, sR_1_3, sR_1_4, sR_1_5, sR_1_6, sR_1_7, sR_1_8, sR_1_9, sT_2, sT_3, sT_4, sT_5, sT_6, sT_7, sT_8, sT_9, sT_10, sT_11, sT_12, sT_13, sT_14, sR_2_1, sR_2_2, sR_2_3, sR_2_4, sR_2_5, sR_2_6, sR_2_7, sR_2_8, sR_2_9, sR_2_10, sR_2_11, sR_2_12, sT_15, sT_16, sT_17, sT_18, sT_19, sT_20, sT_21, sT_22, sT_23, sR_15_1, sR_15_2, sR_15_3, sR_15_4, sR_15_5, sR_15_6, sR_15_7, sR_15_8, sT_24, sT_25, sT_26, sT_27, sT_28, sT_29, sR_24_1, sR_24_2, sR_24_3, sR_24_4, sR_24_5, sT_71, sT_72, sR_71_0, sR_71_1, sR_71_2, sR_71_3, sR_71_4, sT_73, sT_74, sT_75, sR_73_0, sR_73_1, sR_73_2, sR_73_3, sR_73_4, sR_73_5, sT_84, sT_85, sT_86, sT_87, sR_84_0, sR_84_1, sR_84_2, sR_84_3, sR_84_4, sR_84_5, sT_88, sT_89, sR_88_0, sT_90, sT_91, sR_90_0, c0]
theorem f1_bonds {A : AS} (w : WF A) {S : Nat} (hm : sMat A S) : (fst1 (fun b => S.testBit b && (sPlc A b).isNone && (sCpl A (aPe A b)).isNone) (aNb A)).isNone = (sF1 A S).isNone := by
  rw [Bool.eq_iff_iff, fst1_all, sF1_iff]
  constructor
  · intro h p hp hc hr
    unfold sRnk at hr
    cases hb : sBnd A S p with
    | none => rw [hb] at hr; cases hr
    | some b =>
      rw [hb] at hr
      simp only at hr
      obtain ⟨b1, b2, b3⟩ := (sBnd_iff hm).mp hb
      have := h b b1
      rw [b2, hr, b3, hc] at this
      cases this
  · intro h b hb
    cases q : (S.testBit b && (sPlc A b).isNone && (sCpl A (aPe A b)).isNone) with
    | false => rfl
    | true =>
      rw [Bool.and_eq_true, Bool.and_eq_true] at q
      have h1 := h (aPe A b) (w.2.2.1.2.1 b hb).1 (Option.isNone_iff_eq_none.mp q.2)
      unfold sRnk at h1
      rw [(sBnd_iff hm).mpr ⟨hb, q.1.1, rfl⟩] at h1
      exact absurd (Option.isNone_iff_eq_none.mp q.1.2) h1
theorem e_Ma_isFree {A : AS} {mv : Nat → Nat} {h : jHp} (x : MV A mv h) {S : Nat} (hS : S < 2 ^ aNb A) (hm : sMat A S) : f_Ma_isFree [.ref 71, .int (nI S), .int (nI (slM A S))] h = some (some (.int (if sFree (aMv A mv) S then 1 else 0)), h) := by
  have hs := x.1.1.1
  have w := x.1.1.2.1
  have cb := x.1.1.2.2.1
  have cp := x.1.1.2.2.2
  have h20 := w.2.2.1.1
  have hn := w.1.1
  have hp20 := p20 w
  have c0 := cb.1
  have et := e_Ma_isTakenWhole x S
  have ec := e_Ma_couplesHavePairs x.1 hS hm
  have h10 : ((1 : Int32) = 0) = False := by decide
  have hfr : sFree (aMv A mv) S = ((fst1 (fun b => S.testBit b && (sPlc A b).isNone && (sCpl A (aPe A b)).isNone) (aNb A)).isNone && (sF2 A S).isNone && (sF3 (aMv A mv) S).isNone) := by
    rw [f1_bonds w hm]; rfl
  rw [hfr]
  have step : ∀ b, b < aNb A → lstp 1 2 lc_Ma_isFree_1 lb_Ma_isFree_1 lu_Ma_isFree_1 ([.ref 71, .int (nI S), .int (nI (slM A S)), .int (nI b)], h) = some (if (S.testBit b && (sPlc A b).isNone && (sCpl A (aPe A b)).isNone) = true then .inr (.inr (some (.int (nI 0))), ([.ref 71, .int (nI S), .int (nI (slM A S)), .int (nI b)], h)) else .inl ([.ref 71, .int (nI S), .int (nI (slM A S)), .int (nI (b + 1))], h)) := by
    intro b hb
    have hbt := n_bit (a := S) (k := b) (by omega) (by omega)
    have e1 := (cb.2.1 b hb).1
    have c22 := cp.2.2.2.2.1 b (by omega)
    rw [if_pos hb] at c22
    have l1 := (w.2.2.1.2.1 b hb).1
    have es := e_P_isSingle hs w cp (nI (aPe A b))
    rw [n_in (by omega), nI_clamp (by omega), decide_eq_true l1] at es
    have h00 : (nI 0 = 0) = True := by decide
    have h10' : (nI 1 = 0) = False := by decide
    generalize S.testBit b = tb at *
    cases tb with
    | false =>
      simp only [Bool.toNat_false] at hbt
      simp (disch := first | assumption | omega) [lstp, lc_Ma_isFree_1, lb_Ma_isFree_1, lu_Ma_isFree_1, j_meth, j_out, j_rok, j_pad, lg_sl, s_seq_w, isN_inl, isN_inr, s_if, jb, x_c, x_iloc, x_aloc, x_lloc, x_bin, x_un, o_add, o_sub, o_mul, o_and, o_or, o_xor, o_shl, o_shr, o_ushr, o_max, o_min, o_i2b, o_i2c, o_i2l, o_l2i, x_fld, j_fget, x_idx, j_aget, x_len, j_alen, x_ofb, x_ite, xs_nil, xs_cons, x_callv, x_calls, s_callv, s_calls, j_recv, j_ret, j_retv, b_cmp, b_and, b_or, b_not, b_ofi, b_ite, b_true, s_skip, s_set, j_ty, j_lset, j_kill, s_inc, s_fput, j_fput, s_fop, s_aput, j_aput, j_nar, s_aop, s_ret, s_retv, s_go, s_pop, x_linc, x_finc, Value.category, if_icmp.holds, List.flatMap_cons, List.flatMap_nil, List.length_cons, List.length_append, List.length_nil, List.set_cons_succ, List.set_cons_zero, List.getElem?_cons_succ, List.getElem?_cons_zero, List.replicate, ite_and', ite_or', ite_int', nI_leI, nI_ltI, nI_eq, nI_add, nI_1, pk_mul, nI_clamp, n_in', nI_pos', nI_pos, n_m1e, n_01, n_10, sT_1, sR_1_0, sR_1_1, sR_1_2, sR_1_3, sR_1_4, sR_1_5, sR_1_6, sR_1_7, sR_1_8, sR_1_9, sT_2, sT_3, sT_4, sT_5, sT_6, sT_7, sT_8, sT_9, sT_10, sT_11, sT_12, sT_13, sT_14, sR_2_1, sR_2_2, sR_2_3, sR_2_4, sR_2_5, sR_2_6, sR_2_7, sR_2_8, sR_2_9, sR_2_10, sR_2_11, sR_2_12, sT_15, sT_16, sT_17, sT_18, sT_19, sT_20, sT_21, sT_22, sT_23, sR_15_1, sR_15_2, sR_15_3, sR_15_4, sR_15_5, sR_15_6, sR_15_7, sR_15_8, sT_24, sT_25, sT_26, sT_27, sT_28, sT_29, sR_24_1, sR_24_2, sR_24_3, sR_24_4, sR_24_5, sT_71, sT_72, sR_71_0, sR_71_1, sR_71_2, sR_71_3, sR_71_4, sT_73, sT_74, sT_75, sR_73_0, sR_73_1, sR_73_2, sR_73_3, sR_73_4, sR_73_5, sT_84, sT_85, sT_86, sT_87, sR_84_0, sR_84_1, sR_84_2, sR_84_3, sR_84_4, sR_84_5, sT_88, sT_89, sR_88_0, sT_90, sT_91, sR_90_0, c0, hb, hbt, h00]
    | true =>
      simp only [Bool.toNat_true] at hbt
      cases hpl : sPlc A b with
      | some k =>
        rw [hpl, oI_s] at c22
        have hk5 := sPlc_lt w hpl
        have hne : (nI k = -1) = False := n_m1e (by omega)
        simp (disch := first | assumption | omega) [lstp, lc_Ma_isFree_1, lb_Ma_isFree_1, lu_Ma_isFree_1, j_meth, j_out, j_rok, j_pad, lg_sl, s_seq_w, isN_inl, isN_inr, s_if, jb, x_c, x_iloc, x_aloc, x_lloc, x_bin, x_un, o_add, o_sub, o_mul, o_and, o_or, o_xor, o_shl, o_shr, o_ushr, o_max, o_min, o_i2b, o_i2c, o_i2l, o_l2i, x_fld, j_fget, x_idx, j_aget, x_len, j_alen, x_ofb, x_ite, xs_nil, xs_cons, x_callv, x_calls, s_callv, s_calls, j_recv, j_ret, j_retv, b_cmp, b_and, b_or, b_not, b_ofi, b_ite, b_true, s_skip, s_set, j_ty, j_lset, j_kill, s_inc, s_fput, j_fput, s_fop, s_aput, j_aput, j_nar, s_aop, s_ret, s_retv, s_go, s_pop, x_linc, x_finc, Value.category, if_icmp.holds, List.flatMap_cons, List.flatMap_nil, List.length_cons, List.length_append, List.length_nil, List.set_cons_succ, List.set_cons_zero, List.getElem?_cons_succ, List.getElem?_cons_zero, List.replicate, ite_and', ite_or', ite_int', nI_leI, nI_ltI, nI_eq, nI_add, nI_1, pk_mul, nI_clamp, n_in', nI_pos', nI_pos, n_m1e, n_01, n_10, sT_1, sR_1_0, sR_1_1, sR_1_2, sR_1_3, sR_1_4, sR_1_5, sR_1_6, sR_1_7, sR_1_8, sR_1_9, sT_2, sT_3, sT_4, sT_5, sT_6, sT_7, sT_8, sT_9, sT_10, sT_11, sT_12, sT_13, sT_14, sR_2_1, sR_2_2, sR_2_3, sR_2_4, sR_2_5, sR_2_6, sR_2_7, sR_2_8, sR_2_9, sR_2_10, sR_2_11, sR_2_12, sT_15, sT_16, sT_17, sT_18, sT_19, sT_20, sT_21, sT_22, sT_23, sR_15_1, sR_15_2, sR_15_3, sR_15_4, sR_15_5, sR_15_6, sR_15_7, sR_15_8, sT_24, sT_25, sT_26, sT_27, sT_28, sT_29, sR_24_1, sR_24_2, sR_24_3, sR_24_4, sR_24_5, sT_71, sT_72, sR_71_0, sR_71_1, sR_71_2, sR_71_3, sR_71_4, sT_73, sT_74, sT_75, sR_73_0, sR_73_1, sR_73_2, sR_73_3, sR_73_4, sR_73_5, sT_84, sT_85, sT_86, sT_87, sR_84_0, sR_84_1, sR_84_2, sR_84_3, sR_84_4, sR_84_5, sT_88, sT_89, sR_88_0, sT_90, sT_91, sR_90_0, c0, hb, hbt, h10', c22, hne]
      | none =>
        rw [hpl, oI_n] at c22
        cases hc : sCpl A (aPe A b) with
        | none =>
          rw [if_pos ⟨rfl, hc⟩] at es
          simp (disch := first | assumption | omega) [lstp, lc_Ma_isFree_1, lb_Ma_isFree_1, lu_Ma_isFree_1, j_meth, j_out, j_rok, j_pad, lg_sl, s_seq_w, isN_inl, isN_inr, s_if, jb, x_c, x_iloc, x_aloc, x_lloc, x_bin, x_un, o_add, o_sub, o_mul, o_and, o_or, o_xor, o_shl, o_shr, o_ushr, o_max, o_min, o_i2b, o_i2c, o_i2l, o_l2i, x_fld, j_fget, x_idx, j_aget, x_len, j_alen, x_ofb, x_ite, xs_nil, xs_cons, x_callv, x_calls, s_callv, s_calls, j_recv, j_ret, j_retv, b_cmp, b_and, b_or, b_not, b_ofi, b_ite, b_true, s_skip, s_set, j_ty, j_lset, j_kill, s_inc, s_fput, j_fput, s_fop, s_aput, j_aput, j_nar, s_aop, s_ret, s_retv, s_go, s_pop, x_linc, x_finc, Value.category, if_icmp.holds, List.flatMap_cons, List.flatMap_nil, List.length_cons, List.length_append, List.length_nil, List.set_cons_succ, List.set_cons_zero, List.getElem?_cons_succ, List.getElem?_cons_zero, List.replicate, ite_and', ite_or', ite_int', nI_leI, nI_ltI, nI_eq, nI_add, nI_1, pk_mul, nI_clamp, n_in', nI_pos', nI_pos, n_m1e, n_01, n_10, sT_1, sR_1_0, sR_1_1, sR_1_2, sR_1_3, sR_1_4, sR_1_5, sR_1_6, sR_1_7, sR_1_8, sR_1_9, sT_2, sT_3, sT_4, sT_5, sT_6, sT_7, sT_8, sT_9, sT_10, sT_11, sT_12, sT_13, sT_14, sR_2_1, sR_2_2, sR_2_3, sR_2_4, sR_2_5, sR_2_6, sR_2_7, sR_2_8, sR_2_9, sR_2_10, sR_2_11, sR_2_12, sT_15, sT_16, sT_17, sT_18, sT_19, sT_20, sT_21, sT_22, sT_23, sR_15_1, sR_15_2, sR_15_3, sR_15_4, sR_15_5, sR_15_6, sR_15_7, sR_15_8, sT_24, sT_25, sT_26, sT_27, sT_28, sT_29, sR_24_1, sR_24_2, sR_24_3, sR_24_4, sR_24_5, sT_71, sT_72, sR_71_0, sR_71_1, sR_71_2, sR_71_3, sR_71_4, sT_73, sT_74, sT_75, sR_73_0, sR_73_1, sR_73_2, sR_73_3, sR_73_4, sR_73_5, sT_84, sT_85, sT_86, sT_87, sR_84_0, sR_84_1, sR_84_2, sR_84_3, sR_84_4, sR_84_5, sT_88, sT_89, sR_88_0, sT_90, sT_91, sR_90_0, c0, hb, hbt, h10', c22, e1, es, h10]
        | some c =>
          rw [if_neg (fun q => by rw [hc] at q; exact absurd q.2 (by simp))] at es
          simp (disch := first | assumption | omega) [lstp, lc_Ma_isFree_1, lb_Ma_isFree_1, lu_Ma_isFree_1, j_meth, j_out, j_rok, j_pad, lg_sl, s_seq_w, isN_inl, isN_inr, s_if, jb, x_c, x_iloc, x_aloc, x_lloc, x_bin, x_un, o_add, o_sub, o_mul, o_and, o_or, o_xor, o_shl, o_shr, o_ushr, o_max, o_min, o_i2b, o_i2c, o_i2l, o_l2i, x_fld, j_fget, x_idx, j_aget, x_len, j_alen, x_ofb, x_ite, xs_nil, xs_cons, x_callv, x_calls, s_callv, s_calls, j_recv, j_ret, j_retv, b_cmp, b_and, b_or, b_not, b_ofi, b_ite, b_true, s_skip, s_set, j_ty, j_lset, j_kill, s_inc, s_fput, j_fput, s_fop, s_aput, j_aput, j_nar, s_aop, s_ret, s_retv, s_go, s_pop, x_linc, x_finc, Value.category, if_icmp.holds, List.flatMap_cons, List.flatMap_nil, List.length_cons, List.length_append, List.length_nil, List.set_cons_succ, List.set_cons_zero, List.getElem?_cons_succ, List.getElem?_cons_zero, List.replicate, ite_and', ite_or', ite_int', nI_leI, nI_ltI, nI_eq, nI_add, nI_1, pk_mul, nI_clamp, n_in', nI_pos', nI_pos, n_m1e, n_01, n_10, sT_1, sR_1_0, sR_1_1, sR_1_2, sR_1_3, sR_1_4, sR_1_5, sR_1_6, sR_1_7, sR_1_8, sR_1_9, sT_2, sT_3, sT_4, sT_5, sT_6, sT_7, sT_8, sT_9, sT_10, sT_11, sT_12, sT_13, sT_14, sR_2_1, sR_2_2, sR_2_3, sR_2_4, sR_2_5, sR_2_6, sR_2_7, sR_2_8, sR_2_9, sR_2_10, sR_2_11, sR_2_12, sT_15, sT_16, sT_17, sT_18, sT_19, sT_20, sT_21, sT_22, sT_23, sR_15_1, sR_15_2, sR_15_3, sR_15_4, sR_15_5, sR_15_6, sR_15_7, sR_15_8, sT_24, sT_25, sT_26, sT_27, sT_28, sT_29, sR_24_1, sR_24_2, sR_24_3, sR_24_4, sR_24_5, sT_71, sT_72, sR_71_0, sR_71_1, sR_71_2, sR_71_3, sR_71_4, sT_73, sT_74, sT_75, sR_73_0, sR_73_1, sR_73_2, sR_73_3, sR_73_4, sR_73_5, sT_84, sT_85, sT_86, sT_87, sR_84_0, sR_84_1, sR_84_2, sR_84_3, sR_84_4, sR_84_5, sT_88, sT_89, sR_88_0, sT_90, sT_91, sR_90_0, c0, hb, hbt, h10', c22, e1, es]
  have hL := loop_1s (lb := 1) (lc := 2) (c := lc_Ma_isFree_1) (b := lb_Ma_isFree_1) (u := lu_Ma_isFree_1) (aNb A) (fun b => (([.ref 71, .int (nI S), .int (nI (slM A S)), .int (nI b)], h) : jS)) (fun b => S.testBit b && (sPlc A b).isNone && (sCpl A (aPe A b)).isNone) (fun b => (.inr (some (.int (nI 0))), ([.ref 71, .int (nI S), .int (nI (slM A S)), .int (nI b)], h))) step
    (by simp (disch := first | assumption | omega) [lstp, lc_Ma_isFree_1, lb_Ma_isFree_1, lu_Ma_isFree_1, j_meth, j_out, j_rok, j_pad, lg_sl, s_seq_w, isN_inl, isN_inr, s_if, jb, x_c, x_iloc, x_aloc, x_lloc, x_bin, x_un, o_add, o_sub, o_mul, o_and, o_or, o_xor, o_shl, o_shr, o_ushr, o_max, o_min, o_i2b, o_i2c, o_i2l, o_l2i, x_fld, j_fget, x_idx, j_aget, x_len, j_alen, x_ofb, x_ite, xs_nil, xs_cons, x_callv, x_calls, s_callv, s_calls, j_recv, j_ret, j_retv, b_cmp, b_and, b_or, b_not, b_ofi, b_ite, b_true, s_skip, s_set, j_ty, j_lset, j_kill, s_inc, s_fput, j_fput, s_fop, s_aput, j_aput, j_nar, s_aop, s_ret, s_retv, s_go, s_pop, x_linc, x_finc, Value.category, if_icmp.holds, List.flatMap_cons, List.flatMap_nil, List.length_cons, List.length_append, List.length_nil, List.set_cons_succ, List.set_cons_zero, List.getElem?_cons_succ, List.getElem?_cons_zero, List.replicate, ite_and', ite_or', ite_int', nI_leI, nI_ltI, nI_eq, nI_add, nI_1, pk_mul, nI_clamp, n_in', nI_pos', nI_pos, n_m1e, n_01, n_10, sT_1, sR_1_0, sR_1_1, sR_1_2, sR_1_3, sR_1_4, sR_1_5, sR_1_6, sR_1_7, sR_1_8, sR_1_9, sT_2, sT_3, sT_4, sT_5, sT_6, sT_7, sT_8, sT_9, sT_10, sT_11, sT_12, sT_13, sT_14, sR_2_1, sR_2_2, sR_2_3, sR_2_4, sR_2_5, sR_2_6, sR_2_7, sR_2_8, sR_2_9, sR_2_10, sR_2_11, sR_2_12, sT_15, sT_16, sT_17, sT_18, sT_19, sT_20, sT_21, sT_22, sT_23, sR_15_1, sR_15_2, sR_15_3, sR_15_4, sR_15_5, sR_15_6, sR_15_7, sR_15_8, sT_24, sT_25, sT_26, sT_27, sT_28, sT_29, sR_24_1, sR_24_2, sR_24_3, sR_24_4, sR_24_5, sT_71, sT_72, sR_71_0, sR_71_1, sR_71_2, sR_71_3, sR_71_4, sT_73, sT_74, sT_75, sR_73_0, sR_73_1, sR_73_2, sR_73_3, sR_73_4, sR_73_5, sT_84, sT_85, sT_86, sT_87, sR_84_0, sR_84_1, sR_84_2, sR_84_3, sR_84_4, sR_84_5, sT_88, sT_89, sR_88_0, sT_90, sT_91, sR_90_0, c0])
  clear step hfr
  generalize (sF2 A S).isNone = f2 at *
  generalize (sF3 (aMv A mv) S).isNone = f3 at *
  cases hf : fst1 (fun b => S.testBit b && (sPlc A b).isNone && (sCpl A (aPe A b)).isNone) (aNb A) with
  | none =>
    rw [hf] at hL
    simp only [nI_0] at hL
    cases f2 <;> cases f3 <;> simp (disch := first | assumption | omega) [f_Ma_isFree, body_Ma_isFree, j_meth, j_out, j_rok, j_pad, lg_sl, s_seq_w, isN_inl, isN_inr, s_if, jb, x_c, x_iloc, x_aloc, x_lloc, x_bin, x_un, o_add, o_sub, o_mul, o_and, o_or, o_xor, o_shl, o_shr, o_ushr, o_max, o_min, o_i2b, o_i2c, o_i2l, o_l2i, x_fld, j_fget, x_idx, j_aget, x_len, j_alen, x_ofb, x_ite, xs_nil, xs_cons, x_callv, x_calls, s_callv, s_calls, j_recv, j_ret, j_retv, b_cmp, b_and, b_or, b_not, b_ofi, b_ite, b_true, s_skip, s_set, j_ty, j_lset, j_kill, s_inc, s_fput, j_fput, s_fop, s_aput, j_aput, j_nar, s_aop, s_ret, s_retv, s_go, s_pop, x_linc, x_finc, Value.category, if_icmp.holds, List.flatMap_cons, List.flatMap_nil, List.length_cons, List.length_append, List.length_nil, List.set_cons_succ, List.set_cons_zero, List.getElem?_cons_succ, List.getElem?_cons_zero, List.replicate, ite_and', ite_or', ite_int', nI_leI, nI_ltI, nI_eq, nI_add, nI_1, pk_mul, nI_clamp, n_in', nI_pos', nI_pos, n_m1e, n_01, n_10, sT_1, sR_1_0, sR_1_1, sR_1_2, sR_1_3, sR_1_4, sR_1_5, sR_1_6, sR_1_7, sR_1_8, sR_1_9, sT_2, sT_3, sT_4, sT_5, sT_6, sT_7, sT_8, sT_9, sT_10, sT_11, sT_12, sT_13, sT_14, sR_2_1, sR_2_2, sR_2_3, sR_2_4, sR_2_5, sR_2_6, sR_2_7, sR_2_8, sR_2_9, sR_2_10, sR_2_11, sR_2_12, sT_15, sT_16, sT_17, sT_18, sT_19, sT_20, sT_21, sT_22, sT_23, sR_15_1, sR_15_2, sR_15_3, sR_15_4, sR_15_5, sR_15_6, sR_15_7, sR_15_8, sT_24, sT_25, sT_26, sT_27, sT_28, sT_29, sR_24_1, sR_24_2, sR_24_3, sR_24_4, sR_24_5, sT_71, sT_72, sR_71_0, sR_71_1, sR_71_2, sR_71_3, sR_71_4, sT_73, sT_74, sT_75, sR_73_0, sR_73_1, sR_73_2, sR_73_3, sR_73_4, sR_73_5, sT_84, sT_85, sT_86, sT_87, sR_84_0, sR_84_1, sR_84_2, sR_84_3, sR_84_4, sR_84_5, sT_88, sT_89, sR_88_0, sT_90, sT_91, sR_90_0, nI_0, hL, et, ec, h10]
  | some i =>
    rw [hf] at hL
    simp only [nI_0] at hL
    simp (disch := first | assumption | omega) [f_Ma_isFree, body_Ma_isFree, j_meth, j_out, j_rok, j_pad, lg_sl, s_seq_w, isN_inl, isN_inr, s_if, jb, x_c, x_iloc, x_aloc, x_lloc, x_bin, x_un, o_add, o_sub, o_mul, o_and, o_or, o_xor, o_shl, o_shr, o_ushr, o_max, o_min, o_i2b, o_i2c, o_i2l, o_l2i, x_fld, j_fget, x_idx, j_aget, x_len, j_alen, x_ofb, x_ite, xs_nil, xs_cons, x_callv, x_calls, s_callv, s_calls, j_recv, j_ret, j_retv, b_cmp, b_and, b_or, b_not, b_ofi, b_ite, b_true, s_skip, s_set, j_ty, j_lset, j_kill, s_inc, s_fput, j_fput, s_fop, s_aput, j_aput, j_nar, s_aop, s_ret, s_retv, s_go, s_pop, x_linc, x_finc, Value.category, if_icmp.holds, List.flatMap_cons, List.flatMap_nil, List.length_cons, List.length_append, List.length_nil, List.set_cons_succ, List.set_cons_zero, List.getElem?_cons_succ, List.getElem?_cons_zero, List.replicate, ite_and', ite_or', ite_int', nI_leI, nI_ltI, nI_eq, nI_add, nI_1, pk_mul, nI_clamp, n_in', nI_pos', nI_pos, n_m1e, n_01, n_10, sT_1, sR_1_0, sR_1_1, sR_1_2, sR_1_3, sR_1_4, sR_1_5, sR_1_6, sR_1_7, sR_1_8, sR_1_9, sT_2, sT_3, sT_4, sT_5, sT_6, sT_7, sT_8, sT_9, sT_10, sT_11, sT_12, sT_13, sT_14, sR_2_1, sR_2_2, sR_2_3, sR_2_4, sR_2_5, sR_2_6, sR_2_7, sR_2_8, sR_2_9, sR_2_10, sR_2_11, sR_2_12, sT_15, sT_16, sT_17, sT_18, sT_19, sT_20, sT_21, sT_22, sT_23, sR_15_1, sR_15_2, sR_15_3, sR_15_4, sR_15_5, sR_15_6, sR_15_7, sR_15_8, sT_24, sT_25, sT_26, sT_27, sT_28, sT_29, sR_24_1, sR_24_2, sR_24_3, sR_24_4, sR_24_5, sT_71, sT_72, sR_71_0, sR_71_1, sR_71_2, sR_71_3, sR_71_4, sT_73, sT_74, sT_75, sR_73_0, sR_73_1, sR_73_2, sR_73_3, sR_73_4, sR_73_5, sT_84, sT_85, sT_86, sT_87, sR_84_0, sR_84_1, sR_84_2, sR_84_3, sR_84_4, sR_84_5, sT_88, sT_89, sR_88_0, sT_90, sT_91, sR_90_0, nI_0, hL]
