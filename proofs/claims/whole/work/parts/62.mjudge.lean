theorem n_not (a : Nat) : ~~~ nI a = nI (a ^^^ 4294967295) := by
  rw [← n_xor, ← n_m1]
  simp
theorem oI_s (n : Nat) : oI (some n) = nI n := rfl
theorem oI_n : oI none = -1 := rfl
theorem oI_bit {x : Option Nat} (hx : ∀ n, x = some n → n < 20) : (if oI x = -1 then nI 0 else nI 1 <<< (oI x &&& 31)) = nI (oM x) := by
  cases x with
  | none => rfl
  | some n =>
    have := hx n rfl
    have h1 := n_m1e (n := n) (by omega)
    simp only [oI, h1, if_false, oM]
    exact n_bk (by omega)
theorem ite_val (c : Prop) {dc : Decidable c} (u v : Int32) (s : jS) : (if c then some (Value.int u, s) else some (Value.int v, s)) = some (Value.int (if c then u else v), s) := ite_int' c u v s
theorem e_M_breakingPair {A : AS} {h : jHp} (k : RMK A h) (t : RMT A h) {S c : Nat} (hS : S < 2 ^ 31) (hc : c < aNc A) : ∃ h', f_M_breakingPair [.ref 98, .int (nI S), .int (nI c)] h = some (some (.int (oI (sBrP A S c))), h') ∧ MX A h h' := by
  have hs := k.1
  have w := k.2.1
  have h20 := w.2.2.1.1
  have hn := w.1.1
  have hc2 := w.2.2.2.2.1.1
  have hbp := w.2.2.1.2.1
  have q1 := k.2.2.2.1.2.1
  have q2 := k.2.2.2.1.2.2
  have hL1 := loop_n (lb := 1) (lc := 2) (c := lc_M_breakingPair_1) (b := lb_M_breakingPair_1) (u := lu_M_breakingPair_1) (aNb A) (fun i (m : Nat) => (([.ref 98, .int (nI S), .int (nI c), .int (nI m), .int (nI i), .null, .null, .null, .null, .null, .null, .null], h) : jS)) (fun b m => if sCpl A (aPe A b) == some c then m &&& (2 ^ b ^^^ 4294967295) else m) (fun _ _ => True)
    (fun i m hi _ => by
      obtain ⟨e1, -⟩ := q2 i hi
      have l1 := (hbp i hi).1
      have c1 := e_M_coupleOf k (p := aPe A i) (by omega)
      have r1 := fun n => sCpl_31 w (p := aPe A i) n
      refine ⟨trivial, ?_⟩
      generalize sCpl A (aPe A i) = x1 at *
      cases x1 with
      | none =>
        have hne : ¬ (-1 : Int32) = nI c := fun q => by have := n_m1e (n := c) (by omega); rw [← q] at this; simp at this
        simp (disch := first | assumption | omega) [lstp, lc_M_breakingPair_1, lb_M_breakingPair_1, lu_M_breakingPair_1, j_meth, j_out, j_rok, j_pad, lg_sl, s_seq_w, isN_inl, isN_inr, s_if, jb, x_c, x_iloc, x_aloc, x_lloc, x_bin, x_un, o_add, o_sub, o_mul, o_and, o_or, o_xor, o_shl, o_shr, o_ushr, o_max, o_min, o_i2b, o_i2c, o_i2l, o_l2i, x_fld, j_fget, x_idx, j_aget, x_len, j_alen, x_ofb, x_ite, xs_nil, xs_cons, x_callv, x_calls, s_callv, s_calls, j_recv, j_ret, j_retv, b_cmp, b_and, b_or, b_not, b_ofi, b_ite, b_true, s_skip, s_set, j_ty, j_lset, j_kill, s_inc, s_fput, j_fput, s_fop, s_aput, j_aput, j_nar, s_aop, s_ret, s_retv, s_go, s_pop, x_linc, x_finc, Value.category, if_icmp.holds, List.flatMap_cons, List.flatMap_nil, List.length_cons, List.length_append, List.length_nil, List.set_cons_succ, List.set_cons_zero, List.getElem?_cons_succ, List.getElem?_cons_zero, List.replicate, ite_and', ite_or', ite_int', nI_leI, nI_ltI, nI_eq, nI_add, nI_1, pk_mul, nI_clamp, n_in', nI_pos', nI_pos, n_m1e, n_01, n_10, sT_98, sT_99, sT_100, sT_101, sT_102, sT_103, sT_104, sT_105, sT_106, sT_107, sT_108, sT_109, sT_110, sT_111, sT_112, sT_113, sT_114, sT_115, sT_116, sT_117, sT_118, sT_119, sT_120, sT_121, sT_122, sT_123, sT_124, sT_125, sT_126, sT_127, sT_128, sT_129, sT_130, sT_131, sT_132, sT_133, sT_134, sT_135, sT_136, sT_137, sT_138, sT_139, sT_140, sR_98_1, sR_98_4, sR_98_5, sR_98_6, sR_98_7, sR_98_8, sR_98_9, sR_98_10, sR_98_12, sR_98_13, sR_98_14, sR_98_15, sR_98_16, sR_98_17, sR_98_18, sR_98_19, sR_98_20, sR_98_21, sR_98_22, sR_98_23, sR_98_24, sR_98_25, sR_98_26, sR_98_27, sR_98_28, sR_98_29, sR_98_31, sR_98_34, sR_98_35, sR_98_36, sR_98_42, sR_98_44, sR_98_45, sR_98_47, sR_98_49, sR_98_51, sR_98_56, sR_98_58, sR_98_62, sR_98_65, sR_98_66, sR_98_69, q1, hi, e1, c1, oI, hne]
      | some v =>
        have := r1 v rfl
        by_cases hv : v = c
        · simp (disch := first | assumption | omega) [lstp, lc_M_breakingPair_1, lb_M_breakingPair_1, lu_M_breakingPair_1, j_meth, j_out, j_rok, j_pad, lg_sl, s_seq_w, isN_inl, isN_inr, s_if, jb, x_c, x_iloc, x_aloc, x_lloc, x_bin, x_un, o_add, o_sub, o_mul, o_and, o_or, o_xor, o_shl, o_shr, o_ushr, o_max, o_min, o_i2b, o_i2c, o_i2l, o_l2i, x_fld, j_fget, x_idx, j_aget, x_len, j_alen, x_ofb, x_ite, xs_nil, xs_cons, x_callv, x_calls, s_callv, s_calls, j_recv, j_ret, j_retv, b_cmp, b_and, b_or, b_not, b_ofi, b_ite, b_true, s_skip, s_set, j_ty, j_lset, j_kill, s_inc, s_fput, j_fput, s_fop, s_aput, j_aput, j_nar, s_aop, s_ret, s_retv, s_go, s_pop, x_linc, x_finc, Value.category, if_icmp.holds, List.flatMap_cons, List.flatMap_nil, List.length_cons, List.length_append, List.length_nil, List.set_cons_succ, List.set_cons_zero, List.getElem?_cons_succ, List.getElem?_cons_zero, List.replicate, ite_and', ite_or', ite_int', nI_leI, nI_ltI, nI_eq, nI_add, nI_1, pk_mul, nI_clamp, n_in', nI_pos', nI_pos, n_m1e, n_01, n_10, sT_98, sT_99, sT_100, sT_101, sT_102, sT_103, sT_104, sT_105, sT_106, sT_107, sT_108, sT_109, sT_110, sT_111, sT_112, sT_113, sT_114, sT_115, sT_116, sT_117, sT_118, sT_119, sT_120, sT_121, sT_122, sT_123, sT_124, sT_125, sT_126, sT_127, sT_128, sT_129, sT_130, sT_131, sT_132, sT_133, sT_134, sT_135, sT_136, sT_137, sT_138, sT_139, sT_140, sR_98_1, sR_98_4, sR_98_5, sR_98_6, sR_98_7, sR_98_8, sR_98_9, sR_98_10, sR_98_12, sR_98_13, sR_98_14, sR_98_15, sR_98_16, sR_98_17, sR_98_18, sR_98_19, sR_98_20, sR_98_21, sR_98_22, sR_98_23, sR_98_24, sR_98_25, sR_98_26, sR_98_27, sR_98_28, sR_98_29, sR_98_31, sR_98_34, sR_98_35, sR_98_36, sR_98_42, sR_98_44, sR_98_45, sR_98_47, sR_98_49, sR_98_51, sR_98_56, sR_98_58, sR_98_62, sR_98_65, sR_98_66, sR_98_69, q1, hi, e1, c1, oI, hv, n_bk, n_not, n_and]
        · simp (disch := first | assumption | omega) [lstp, lc_M_breakingPair_1, lb_M_breakingPair_1, lu_M_breakingPair_1, j_meth, j_out, j_rok, j_pad, lg_sl, s_seq_w, isN_inl, isN_inr, s_if, jb, x_c, x_iloc, x_aloc, x_lloc, x_bin, x_un, o_add, o_sub, o_mul, o_and, o_or, o_xor, o_shl, o_shr, o_ushr, o_max, o_min, o_i2b, o_i2c, o_i2l, o_l2i, x_fld, j_fget, x_idx, j_aget, x_len, j_alen, x_ofb, x_ite, xs_nil, xs_cons, x_callv, x_calls, s_callv, s_calls, j_recv, j_ret, j_retv, b_cmp, b_and, b_or, b_not, b_ofi, b_ite, b_true, s_skip, s_set, j_ty, j_lset, j_kill, s_inc, s_fput, j_fput, s_fop, s_aput, j_aput, j_nar, s_aop, s_ret, s_retv, s_go, s_pop, x_linc, x_finc, Value.category, if_icmp.holds, List.flatMap_cons, List.flatMap_nil, List.length_cons, List.length_append, List.length_nil, List.set_cons_succ, List.set_cons_zero, List.getElem?_cons_succ, List.getElem?_cons_zero, List.replicate, ite_and', ite_or', ite_int', nI_leI, nI_ltI, nI_eq, nI_add, nI_1, pk_mul, nI_clamp, n_in', nI_pos', nI_pos, n_m1e, n_01, n_10, sT_98, sT_99, sT_100, sT_101, sT_102, sT_103, sT_104, sT_105, sT_106, sT_107, sT_108, sT_109, sT_110, sT_111, sT_112, sT_113, sT_114, sT_115, sT_116, sT_117, sT_118, sT_119, sT_120, sT_121, sT_122, sT_123, sT_124, sT_125, sT_126, sT_127, sT_128, sT_129, sT_130, sT_131, sT_132, sT_133, sT_134, sT_135, sT_136, sT_137, sT_138, sT_139, sT_140, sR_98_1, sR_98_4, sR_98_5, sR_98_6, sR_98_7, sR_98_8, sR_98_9, sR_98_10, sR_98_12, sR_98_13, sR_98_14, sR_98_15, sR_98_16, sR_98_17, sR_98_18, sR_98_19, sR_98_20, sR_98_21, sR_98_22, sR_98_23, sR_98_24, sR_98_25, sR_98_26, sR_98_27, sR_98_28, sR_98_29, sR_98_31, sR_98_34, sR_98_35, sR_98_36, sR_98_42, sR_98_44, sR_98_45, sR_98_47, sR_98_49, sR_98_51, sR_98_56, sR_98_58, sR_98_62, sR_98_65, sR_98_66, sR_98_69, q1, hi, e1, c1, oI, hv])
    (fun m _ => by simp (disch := first | assumption | omega) [lstp, lc_M_breakingPair_1, lb_M_breakingPair_1, lu_M_breakingPair_1, j_meth, j_out, j_rok, j_pad, lg_sl, s_seq_w, isN_inl, isN_inr, s_if, jb, x_c, x_iloc, x_aloc, x_lloc, x_bin, x_un, o_add, o_sub, o_mul, o_and, o_or, o_xor, o_shl, o_shr, o_ushr, o_max, o_min, o_i2b, o_i2c, o_i2l, o_l2i, x_fld, j_fget, x_idx, j_aget, x_len, j_alen, x_ofb, x_ite, xs_nil, xs_cons, x_callv, x_calls, s_callv, s_calls, j_recv, j_ret, j_retv, b_cmp, b_and, b_or, b_not, b_ofi, b_ite, b_true, s_skip, s_set, j_ty, j_lset, j_kill, s_inc, s_fput, j_fput, s_fop, s_aput, j_aput, j_nar, s_aop, s_ret, s_retv, s_go, s_pop, x_linc, x_finc, Value.category, if_icmp.holds, List.flatMap_cons, List.flatMap_nil, List.length_cons, List.length_append, List.length_nil, List.set_cons_succ, List.set_cons_zero, List.getElem?_cons_succ, List.getElem?_cons_zero, List.replicate, ite_and', ite_or', ite_int', nI_leI, nI_ltI, nI_eq, nI_add, nI_1, pk_mul, nI_clamp, n_in', nI_pos', nI_pos, n_m1e, n_01, n_10, sT_98, sT_99, sT_100, sT_101, sT_102, sT_103, sT_104, sT_105, sT_106, sT_107, sT_108, sT_109, sT_110, sT_111, sT_112, sT_113, sT_114, sT_115, sT_116, sT_117, sT_118, sT_119, sT_120, sT_121, sT_122, sT_123, sT_124, sT_125, sT_126, sT_127, sT_128, sT_129, sT_130, sT_131, sT_132, sT_133, sT_134, sT_135, sT_136, sT_137, sT_138, sT_139, sT_140, sR_98_1, sR_98_4, sR_98_5, sR_98_6, sR_98_7, sR_98_8, sR_98_9, sR_98_10, sR_98_12, sR_98_13, sR_98_14, sR_98_15, sR_98_16, sR_98_17, sR_98_18, sR_98_19, sR_98_20, sR_98_21, sR_98_22, sR_98_23, sR_98_24, sR_98_25, sR_98_26, sR_98_27, sR_98_28, sR_98_29, sR_98_31, sR_98_34, sR_98_35, sR_98_36, sR_98_42, sR_98_44, sR_98_45, sR_98_47, sR_98_49, sR_98_51, sR_98_56, sR_98_58, sR_98_62, sR_98_65, sR_98_66, sR_98_69, q1]) S trivial
  have hles : nfo (fun b m => if sCpl A (aPe A b) == some c then m &&& (2 ^ b ^^^ 4294967295) else m) (aNb A) S = sLes A S c := rfl
  rw [hles] at hL1
  have hlt := sLes_lt A c hS
  have er := e_M_rankOfCouple k hS hc
  have r8 := fun n (hn : sRkc A S c = some n) => sRkc_lt w hn
  have hl8 := (w.2.2.2.2.1.2.2.2 c).2.1
  have hrl : ∀ n, sRkc A S c = some n → n ≤ (aPl A c).length := by
    intro n hn
    unfold sRkc at hn
    split at hn
    · cases hn; exact Nat.le_refl _
    · have := fst1_lt hn; omega
  have hpr := (w.2.2.2.2.1.2.2.2 c).2.2.2
  unfold sBrP
  generalize hr : sRkc A S c = r at *
  have hlen : r.getD 0 ≤ (aPl A c).length := by cases r with
    | none => simp
    | some n => exact hrl n rfl
  have hoI : ∀ i, i < 9 → ((nI i < oI r) = (i < r.getD 0)) := by
    intro i hi
    cases r with
    | none => simp [oI, n_ltm1 (n := i) (by omega)]
    | some n => have := r8 n rfl; simp [oI, nI_ltI (a := i) (b := n) (by omega) (by omega)]
  have hL2 := loop_1x (lb := 3) (lc := 4) (c := lc_M_breakingPair_2) (b := lb_M_breakingPair_2) (u := lu_M_breakingPair_2) (r.getD 0) (fun i (j : Value × Value × Value × Value × Value × Value) h => (([.ref 98, .int (nI S), .int (nI c), .int (nI (sLes A S c)), .int (oI r), .int (nI i), j.1, j.2.1, j.2.2.1, j.2.2.2.1, j.2.2.2.2.1, j.2.2.2.2.2], h) : jS)) (MX A h) (fun k => sPTk A (sLes A S c) (prM ((aPl A c).getD k (none, none)))) (fun i => .inr (some (.int (nI i))))
    (fun i j h1 hi hX hx => by
      have k1 := hX.2.1
      have hs1 := k1.1
      have e3 := ((k1.2.2.2.2.2.1).2.2 c (by omega)).2 i (by omega)
      have hm := hpr _ (getD_mem' (l := aPl A c) (d := (none, none)) (i := i) (by omega))
      have g1 : oM ((aPl A c).getD i (none, none)).1 < 2 ^ 20 := oM_lt w fun b hb => (hm.2.1 b hb).1
      have g2 : oM ((aPl A c).getD i (none, none)).2 < 2 ^ 20 := oM_lt w fun b hb => (hm.2.2 b hb).1
      have b1 := oI_bit (x := ((aPl A c).getD i (none, none)).1) fun b hb => by have := (hm.2.1 b hb).1; omega
      have b2 := oI_bit (x := ((aPl A c).getD i (none, none)).2) fun b hb => by have := (hm.2.2 b hb).1; omega
      have g3 : prM ((aPl A c).getD i (none, none)) < 2 ^ 20 := Nat.or_lt_two_pow g1 g2
      have hpm : prM ((aPl A c).getD i (none, none)) = oM ((aPl A c).getD i (none, none)).1 ||| oM ((aPl A c).getD i (none, none)).2 := rfl
      have hlt' := hoI i (by omega)
      generalize (aPl A c).getD i (none, none) = z at *
      obtain ⟨j3, h3, hX3, e4⟩ := e_bp_3 k1 hX.2.2 (S := S) (c := c) (les := sLes A S c) (two := prM z) (top := .int (oI r)) (kk := .int (nI i)) (va := .int (oI z.1)) (vb := .int (oI z.2)) (j0 := j.2.2.2.2.2) hlt (by omega)
      rw [hx] at e4
      rw [hpm] at e4
      refine ⟨[.ref 98, .int (nI S), .int (nI c), .int (nI (sLes A S c)), .int (oI r), .int (nI i), .int (oI z.1), .int (oI z.2), .int (nI (oM z.1 ||| oM z.2)), .int (nI 1), .int (nI (aNo A)), j3], h3, MX_trans hX hX3, ?_⟩
      simp (disch := first | assumption | omega) [lstp, lc_M_breakingPair_2, lb_M_breakingPair_2, lu_M_breakingPair_2, j_meth, j_out, j_rok, j_pad, lg_sl, s_seq_w, isN_inl, isN_inr, s_if, jb, x_c, x_iloc, x_aloc, x_lloc, x_bin, x_un, o_add, o_sub, o_mul, o_and, o_or, o_xor, o_shl, o_shr, o_ushr, o_max, o_min, o_i2b, o_i2c, o_i2l, o_l2i, x_fld, j_fget, x_idx, j_aget, x_len, j_alen, x_ofb, x_ite, xs_nil, xs_cons, x_callv, x_calls, s_callv, s_calls, j_recv, j_ret, j_retv, b_cmp, b_and, b_or, b_not, b_ofi, b_ite, b_true, s_skip, s_set, j_ty, j_lset, j_kill, s_inc, s_fput, j_fput, s_fop, s_aput, j_aput, j_nar, s_aop, s_ret, s_retv, s_go, s_pop, x_linc, x_finc, Value.category, if_icmp.holds, List.flatMap_cons, List.flatMap_nil, List.length_cons, List.length_append, List.length_nil, List.set_cons_succ, List.set_cons_zero, List.getElem?_cons_succ, List.getElem?_cons_zero, List.replicate, ite_and', ite_or', ite_int', nI_leI, nI_ltI, nI_eq, nI_add, nI_1, pk_mul, nI_clamp, n_in', nI_pos', nI_pos, n_m1e, n_01, n_10, sT_98, sT_99, sT_100, sT_101, sT_102, sT_103, sT_104, sT_105, sT_106, sT_107, sT_108, sT_109, sT_110, sT_111, sT_112, sT_113, sT_114, sT_115, sT_116, sT_117, sT_118, sT_119, sT_120, sT_121, sT_122, sT_123, sT_124, sT_125, sT_126, sT_127, sT_128, sT_129, sT_130, sT_131, sT_132, sT_133, sT_134, sT_135, sT_136, sT_137, sT_138, sT_139, sT_140, sR_98_1, sR_98_4, sR_98_5, sR_98_6, sR_98_7, sR_98_8, sR_98_9, sR_98_10, sR_98_12, sR_98_13, sR_98_14, sR_98_15, sR_98_16, sR_98_17, sR_98_18, sR_98_19, sR_98_20, sR_98_21, sR_98_22, sR_98_23, sR_98_24, sR_98_25, sR_98_26, sR_98_27, sR_98_28, sR_98_29, sR_98_31, sR_98_34, sR_98_35, sR_98_36, sR_98_42, sR_98_44, sR_98_45, sR_98_47, sR_98_49, sR_98_51, sR_98_56, sR_98_58, sR_98_62, sR_98_65, sR_98_66, sR_98_69, hs1, hlt', hi, e3.1, e3.2, b1, b2, n_or, e4, n_10])
    (fun i j h1 hi hX hx => by
      have k1 := hX.2.1
      have hs1 := k1.1
      have e3 := ((k1.2.2.2.2.2.1).2.2 c (by omega)).2 i (by omega)
      have hm := hpr _ (getD_mem' (l := aPl A c) (d := (none, none)) (i := i) (by omega))
      have g1 : oM ((aPl A c).getD i (none, none)).1 < 2 ^ 20 := oM_lt w fun b hb => (hm.2.1 b hb).1
      have g2 : oM ((aPl A c).getD i (none, none)).2 < 2 ^ 20 := oM_lt w fun b hb => (hm.2.2 b hb).1
      have b1 := oI_bit (x := ((aPl A c).getD i (none, none)).1) fun b hb => by have := (hm.2.1 b hb).1; omega
      have b2 := oI_bit (x := ((aPl A c).getD i (none, none)).2) fun b hb => by have := (hm.2.2 b hb).1; omega
      have g3 : prM ((aPl A c).getD i (none, none)) < 2 ^ 20 := Nat.or_lt_two_pow g1 g2
      have hpm : prM ((aPl A c).getD i (none, none)) = oM ((aPl A c).getD i (none, none)).1 ||| oM ((aPl A c).getD i (none, none)).2 := rfl
      have hlt' := hoI i (by omega)
      generalize (aPl A c).getD i (none, none) = z at *
      obtain ⟨j3, h3, hX3, e4⟩ := e_bp_3 k1 hX.2.2 (S := S) (c := c) (les := sLes A S c) (two := prM z) (top := .int (oI r)) (kk := .int (nI i)) (va := .int (oI z.1)) (vb := .int (oI z.2)) (j0 := j.2.2.2.2.2) hlt (by omega)
      rw [hx] at e4
      rw [hpm] at e4
      refine ⟨(.int (oI z.1), .int (oI z.2), .int (nI (oM z.1 ||| oM z.2)), .int 0, .int (nI (aNo A)), j3), h3, MX_trans hX hX3, ?_⟩
      simp (disch := first | assumption | omega) [lstp, lc_M_breakingPair_2, lb_M_breakingPair_2, lu_M_breakingPair_2, j_meth, j_out, j_rok, j_pad, lg_sl, s_seq_w, isN_inl, isN_inr, s_if, jb, x_c, x_iloc, x_aloc, x_lloc, x_bin, x_un, o_add, o_sub, o_mul, o_and, o_or, o_xor, o_shl, o_shr, o_ushr, o_max, o_min, o_i2b, o_i2c, o_i2l, o_l2i, x_fld, j_fget, x_idx, j_aget, x_len, j_alen, x_ofb, x_ite, xs_nil, xs_cons, x_callv, x_calls, s_callv, s_calls, j_recv, j_ret, j_retv, b_cmp, b_and, b_or, b_not, b_ofi, b_ite, b_true, s_skip, s_set, j_ty, j_lset, j_kill, s_inc, s_fput, j_fput, s_fop, s_aput, j_aput, j_nar, s_aop, s_ret, s_retv, s_go, s_pop, x_linc, x_finc, Value.category, if_icmp.holds, List.flatMap_cons, List.flatMap_nil, List.length_cons, List.length_append, List.length_nil, List.set_cons_succ, List.set_cons_zero, List.getElem?_cons_succ, List.getElem?_cons_zero, List.replicate, ite_and', ite_or', ite_int', nI_leI, nI_ltI, nI_eq, nI_add, nI_1, pk_mul, nI_clamp, n_in', nI_pos', nI_pos, n_m1e, n_01, n_10, sT_98, sT_99, sT_100, sT_101, sT_102, sT_103, sT_104, sT_105, sT_106, sT_107, sT_108, sT_109, sT_110, sT_111, sT_112, sT_113, sT_114, sT_115, sT_116, sT_117, sT_118, sT_119, sT_120, sT_121, sT_122, sT_123, sT_124, sT_125, sT_126, sT_127, sT_128, sT_129, sT_130, sT_131, sT_132, sT_133, sT_134, sT_135, sT_136, sT_137, sT_138, sT_139, sT_140, sR_98_1, sR_98_4, sR_98_5, sR_98_6, sR_98_7, sR_98_8, sR_98_9, sR_98_10, sR_98_12, sR_98_13, sR_98_14, sR_98_15, sR_98_16, sR_98_17, sR_98_18, sR_98_19, sR_98_20, sR_98_21, sR_98_22, sR_98_23, sR_98_24, sR_98_25, sR_98_26, sR_98_27, sR_98_28, sR_98_29, sR_98_31, sR_98_34, sR_98_35, sR_98_36, sR_98_42, sR_98_44, sR_98_45, sR_98_47, sR_98_49, sR_98_51, sR_98_56, sR_98_58, sR_98_62, sR_98_65, sR_98_66, sR_98_69, hs1, hlt', hi, e3.1, e3.2, b1, b2, n_or, e4, n_10])
    (fun j h1 hX => by
      have hs1 := hX.2.1.1
      have hlt' := hoI (r.getD 0) (by omega)
      simp (disch := first | assumption | omega) [lstp, lc_M_breakingPair_2, lb_M_breakingPair_2, lu_M_breakingPair_2, j_meth, j_out, j_rok, j_pad, lg_sl, s_seq_w, isN_inl, isN_inr, s_if, jb, x_c, x_iloc, x_aloc, x_lloc, x_bin, x_un, o_add, o_sub, o_mul, o_and, o_or, o_xor, o_shl, o_shr, o_ushr, o_max, o_min, o_i2b, o_i2c, o_i2l, o_l2i, x_fld, j_fget, x_idx, j_aget, x_len, j_alen, x_ofb, x_ite, xs_nil, xs_cons, x_callv, x_calls, s_callv, s_calls, j_recv, j_ret, j_retv, b_cmp, b_and, b_or, b_not, b_ofi, b_ite, b_true, s_skip, s_set, j_ty, j_lset, j_kill, s_inc, s_fput, j_fput, s_fop, s_aput, j_aput, j_nar, s_aop, s_ret, s_retv, s_go, s_pop, x_linc, x_finc, Value.category, if_icmp.holds, List.flatMap_cons, List.flatMap_nil, List.length_cons, List.length_append, List.length_nil, List.set_cons_succ, List.set_cons_zero, List.getElem?_cons_succ, List.getElem?_cons_zero, List.replicate, ite_and', ite_or', ite_int', nI_leI, nI_ltI, nI_eq, nI_add, nI_1, pk_mul, nI_clamp, n_in', nI_pos', nI_pos, n_m1e, n_01, n_10, sT_98, sT_99, sT_100, sT_101, sT_102, sT_103, sT_104, sT_105, sT_106, sT_107, sT_108, sT_109, sT_110, sT_111, sT_112, sT_113, sT_114, sT_115, sT_116, sT_117, sT_118, sT_119, sT_120, sT_121, sT_122, sT_123, sT_124, sT_125, sT_126, sT_127, sT_128, sT_129, sT_130, sT_131, sT_132, sT_133, sT_134, sT_135, sT_136, sT_137, sT_138, sT_139, sT_140, sR_98_1, sR_98_4, sR_98_5, sR_98_6, sR_98_7, sR_98_8, sR_98_9, sR_98_10, sR_98_12, sR_98_13, sR_98_14, sR_98_15, sR_98_16, sR_98_17, sR_98_18, sR_98_19, sR_98_20, sR_98_21, sR_98_22, sR_98_23, sR_98_24, sR_98_25, sR_98_26, sR_98_27, sR_98_28, sR_98_29, sR_98_31, sR_98_34, sR_98_35, sR_98_36, sR_98_42, sR_98_44, sR_98_45, sR_98_47, sR_98_49, sR_98_51, sR_98_56, sR_98_58, sR_98_62, sR_98_65, sR_98_66, sR_98_69, hs1, hlt']) (.null, .null, .null, .null, .null, .null) h (MX_refl k t)
  simp only [nI_0] at hL1
  cases hf : fst1 (fun k => sPTk A (sLes A S c) (prM ((aPl A c).getD k (none, none)))) (r.getD 0) with
  | some i =>
    rw [hf] at hL2
    obtain ⟨L, h', hX, e3⟩ := hL2
    simp only [nI_0] at e3
    exact ⟨h', by simp (disch := first | assumption | omega) [f_M_breakingPair, body_M_breakingPair, j_meth, j_out, j_rok, j_pad, lg_sl, s_seq_w, isN_inl, isN_inr, s_if, jb, x_c, x_iloc, x_aloc, x_lloc, x_bin, x_un, o_add, o_sub, o_mul, o_and, o_or, o_xor, o_shl, o_shr, o_ushr, o_max, o_min, o_i2b, o_i2c, o_i2l, o_l2i, x_fld, j_fget, x_idx, j_aget, x_len, j_alen, x_ofb, x_ite, xs_nil, xs_cons, x_callv, x_calls, s_callv, s_calls, j_recv, j_ret, j_retv, b_cmp, b_and, b_or, b_not, b_ofi, b_ite, b_true, s_skip, s_set, j_ty, j_lset, j_kill, s_inc, s_fput, j_fput, s_fop, s_aput, j_aput, j_nar, s_aop, s_ret, s_retv, s_go, s_pop, x_linc, x_finc, Value.category, if_icmp.holds, List.flatMap_cons, List.flatMap_nil, List.length_cons, List.length_append, List.length_nil, List.set_cons_succ, List.set_cons_zero, List.getElem?_cons_succ, List.getElem?_cons_zero, List.replicate, ite_and', ite_or', ite_int', nI_leI, nI_ltI, nI_eq, nI_add, nI_1, pk_mul, nI_clamp, n_in', nI_pos', nI_pos, n_m1e, n_01, n_10, sT_98, sT_99, sT_100, sT_101, sT_102, sT_103, sT_104, sT_105, sT_106, sT_107, sT_108, sT_109, sT_110, sT_111, sT_112, sT_113, sT_114, sT_115, sT_116, sT_117, sT_118, sT_119, sT_120, sT_121, sT_122, sT_123, sT_124, sT_125, sT_126, sT_127, sT_128, sT_129, sT_130, sT_131, sT_132, sT_133, sT_134, sT_135, sT_136, sT_137, sT_138, sT_139, sT_140, sR_98_1, sR_98_4, sR_98_5, sR_98_6, sR_98_7, sR_98_8, sR_98_9, sR_98_10, sR_98_12, sR_98_13, sR_98_14, sR_98_15, sR_98_16, sR_98_17, sR_98_18, sR_98_19, sR_98_20, sR_98_21, sR_98_22, sR_98_23, sR_98_24, sR_98_25, sR_98_26, sR_98_27, sR_98_28, sR_98_29, sR_98_31, sR_98_34, sR_98_35, sR_98_36, sR_98_42, sR_98_44, sR_98_45, sR_98_47, sR_98_49, sR_98_51, sR_98_56, sR_98_58, sR_98_62, sR_98_65, sR_98_66, sR_98_69, hL1, er, e3, oI_s, oI_n, nI_0], hX⟩
  | none =>
    rw [hf] at hL2
    obtain ⟨j, h', hX, e3⟩ := hL2
    simp only [nI_0] at e3
    exact ⟨h', by simp (disch := first | assumption | omega) [f_M_breakingPair, body_M_breakingPair, j_meth, j_out, j_rok, j_pad, lg_sl, s_seq_w, isN_inl, isN_inr, s_if, jb, x_c, x_iloc, x_aloc, x_lloc, x_bin, x_un, o_add, o_sub, o_mul, o_and, o_or, o_xor, o_shl, o_shr, o_ushr, o_max, o_min, o_i2b, o_i2c, o_i2l, o_l2i, x_fld, j_fget, x_idx, j_aget, x_len, j_alen, x_ofb, x_ite, xs_nil, xs_cons, x_callv, x_calls, s_callv, s_calls, j_recv, j_ret, j_retv, b_cmp, b_and, b_or, b_not, b_ofi, b_ite, b_true, s_skip, s_set, j_ty, j_lset, j_kill, s_inc, s_fput, j_fput, s_fop, s_aput, j_aput, j_nar, s_aop, s_ret, s_retv, s_go, s_pop, x_linc, x_finc, Value.category, if_icmp.holds, List.flatMap_cons, List.flatMap_nil, List.length_cons, List.length_append, List.length_nil, List.set_cons_succ, List.set_cons_zero, List.getElem?_cons_succ, List.getElem?_cons_zero, List.replicate, ite_and', ite_or', ite_int', nI_leI, nI_ltI, nI_eq, nI_add, nI_1, pk_mul, nI_clamp, n_in', nI_pos', nI_pos, n_m1e, n_01, n_10, sT_98, sT_99, sT_100, sT_101, sT_102, sT_103, sT_104, sT_105, sT_106, sT_107, sT_108, sT_109, sT_110, sT_111, sT_112, sT_113, sT_114, sT_115, sT_116, sT_117, sT_118, sT_119, sT_120, sT_121, sT_122, sT_123, sT_124, sT_125, sT_126, sT_127, sT_128, sT_129, sT_130, sT_131, sT_132, sT_133, sT_134, sT_135, sT_136, sT_137, sT_138, sT_139, sT_140, sR_98_1, sR_98_4, sR_98_5, sR_98_6, sR_98_7, sR_98_8, sR_98_9, sR_98_10, sR_98_12, sR_98_13, sR_98_14, sR_98_15, sR_98_16, sR_98_17, sR_98_18, sR_98_19, sR_98_20, sR_98_21, sR_98_22, sR_98_23, sR_98_24, sR_98_25, sR_98_26, sR_98_27, sR_98_28, sR_98_29, sR_98_31, sR_98_34, sR_98_35, sR_98_36, sR_98_42, sR_98_44, sR_98_45, sR_98_47, sR_98_49, sR_98_51, sR_98_56, sR_98_58, sR_98_62, sR_98_65, sR_98_66, sR_98_69, hL1, er, e3, oI_s, oI_n, nI_0], hX⟩
/-! judgeOf -/
def sBk3 (A : AS) (S : Nat) : Option Nat := fst1 (fun f => (sBrk A S f (sWt A S)).isSome) (aNo A)
def sBk4 (A : AS) (S : Nat) : Option Nat := fst1 (fun c => (sBrP A S c).isSome) (aNc A)
def sJdg (A : AS) (S : Nat) : Nat × Option (Nat × Nat) := if popN 32 (sPpl A S) ≠ popN 32 S then (1, none) else if sFree A S = false then (2, none) else match sBk3 A S with
  | some f => (3, some (f, (sBrk A S f (sWt A S)).getD 0))
  | none => match sBk4 A S with
    | some c => (4, some (c, (sBrP A S c).getD 0))
    | none => (0, none)
def Wjd (a k : Nat) : Prop := Wmk a k ∨ (a = 98 ∧ (k = 52 ∨ k = 53))
theorem Wjd_cM : ∀ a k, cM a k → ¬ Wjd a k := by
  unfold cM Wjd Wmk
  intro a k h1 h2
  omega
theorem Wjd_mk : ∀ a k, Wmk a k → Wjd a k := fun _ _ h => Or.inl h
theorem RMT_fr {A : AS} {W : Nat → Nat → Prop} {h h' : jHp} (t : RMT A h) (f : Fr W h h') (hW : ∀ a k, (a = 98 ∧ k = 37) ∨ (126 ≤ a ∧ a ≤ 128) → ¬ W a k) : RMT A h' := by
  have c1 : hI h' 98 37 = hI h 98 37 := f.2 _ _ (hW _ _ (Or.inl ⟨rfl, rfl⟩))
  have c2 : ∀ a k, 126 ≤ a → a ≤ 128 → hI h' a k = hI h a k := fun a k q1 q2 => f.2 _ _ (hW _ _ (Or.inr ⟨q1, q2⟩))
  rcases t with t | ⟨t1, t2⟩
  · exact Or.inl (by rw [c1]; exact t)
  · refine Or.inr ⟨by rw [c1]; exact t1, fun f hf => ?_⟩
    obtain ⟨⟨r1, r2⟩, r3⟩ := t2 f hf
    exact ⟨⟨by rw [c2 127 _ (by omega) (by omega)]; exact r1, fun k hk => by rw [c2 126 _ (by omega) (by omega)]; exact r2 k hk⟩, fun s hs => by rw [c2 128 _ (by omega) (by omega)]; exact r3 s hs⟩
/-- a step that touches neither the state nor the tables -/
theorem MW_step {A : AS} {W V : Nat → Nat → Prop} {h h1 h2 : jHp} (a : MW W A h h1) (f : Fr V h1 h2) (hV : ∀ a k, V a k → W a k ∧ ¬ cM a k ∧ ¬ ((a = 98 ∧ k = 37) ∨ (126 ≤ a ∧ a ≤ 128))) : MW W A h h2 :=
  ⟨Fr_trans a.1 (Fr_mono f fun x y q => (hV x y q).1), RMK_fr a.2.1 f (fun x y q r => (hV x y r).2.1 q), RMT_fr a.2.2 f (fun x y q r => (hV x y r).2.2 q)⟩
theorem sBrk_lt {A : AS} (w : WF A) {S f wt z : Nat} (h : sBrk A S f wt = some z) : z < 2 ^ 20 := by
  have h1 := fst1_lt h
  have hl1 : S &&& sOff A f < 2 ^ 20 := Nat.and_lt_two_pow _ (sOff_lt w f)
  have hl2 : wt &&& sOff A f < 2 ^ 20 := Nat.and_lt_two_pow _ (sOff_lt w f)
  have hl3 : (S &&& sOff A f) ||| (wt &&& sOff A f) < 2 ^ 20 := Nat.or_lt_two_pow hl1 hl2
  have h2 := (fst1_some h).2.1
  unfold sBkP at h2
  simp only [Bool.and_eq_true, beq_iff_eq] at h2
  have := sub_le h2.1
  omega
theorem sBrP_lt {A : AS} (w : WF A) {S c z : Nat} (h : sBrP A S c = some z) : z < 8 := by
  have h1 := fst1_lt h
  cases hr : sRkc A S c with
  | none => rw [hr] at h1; simp at h1
  | some n => rw [hr] at h1; have := sRkc_lt w hr; simp at h1; omega
theorem e_M_judgeOf {A : AS} {h : jHp} (k : RMK A h) (t : RMT A h) {S : Nat} (hS : S < 2 ^ 31) : ∃ h', f_M_judgeOf [.ref 98, .int (nI S)] h = some (some (.int (nI (sJdg A S).1)), h') ∧ MW Wjd A h h' ∧ ∀ x y, (sJdg A S).2 = some (x, y) → hI h' 98 52 = nI x ∧ hI h' 98 53 = nI y := by
  have hs := k.1
  have w := k.2.1
  have hn := w.1.1
  have h20 := w.2.2.1.1
  have hno := w.2.1
  have hnc := w.2.2.2.2.1.1
  have ep := e_M_peopleOf h hs (S := S) (nb := aNb A) (aPe A) hS h20 k.2.2.2.1.2.1 (fun b hb => ⟨(k.2.2.2.1.2.2 b hb).1, by have := (w.2.2.1.2.1 b hb).1; omega⟩)
  have hpl := sPpl_lt w S
  have hpd : pplOf (aPe A) S (aNb A) = sPpl A S := rfl
  rw [hpd] at ep
  have em1 := e_M_many h (x := sPpl A S) (by omega)
  have em2 := e_M_many h (x := S) (by omega)
  have hp1 := popN_le 32 (sPpl A S)
  have hp2 := popN_le 32 S
  obtain ⟨h1, ef, hX1⟩ := e_M_isFree k t hS
  have k1 := hX1.2.1
  have hs1 := k1.1
  have ew := e_M_wanted k1 hS
  have hwl := sWt_lt w S
  unfold sJdg
  by_cases c1 : popN 32 (sPpl A S) ≠ popN 32 S
  · rw [if_pos c1]
    refine ⟨h, ?_, MW_refl k t, fun x y q => by cases q⟩
    simp (disch := first | assumption | omega) [f_M_judgeOf, body_M_judgeOf, j_meth, j_out, j_rok, j_pad, lg_sl, s_seq_w, isN_inl, isN_inr, s_if, jb, x_c, x_iloc, x_aloc, x_lloc, x_bin, x_un, o_add, o_sub, o_mul, o_and, o_or, o_xor, o_shl, o_shr, o_ushr, o_max, o_min, o_i2b, o_i2c, o_i2l, o_l2i, x_fld, j_fget, x_idx, j_aget, x_len, j_alen, x_ofb, x_ite, xs_nil, xs_cons, x_callv, x_calls, s_callv, s_calls, j_recv, j_ret, j_retv, b_cmp, b_and, b_or, b_not, b_ofi, b_ite, b_true, s_skip, s_set, j_ty, j_lset, j_kill, s_inc, s_fput, j_fput, s_fop, s_aput, j_aput, j_nar, s_aop, s_ret, s_retv, s_go, s_pop, x_linc, x_finc, Value.category, if_icmp.holds, List.flatMap_cons, List.flatMap_nil, List.length_cons, List.length_append, List.length_nil, List.set_cons_succ, List.set_cons_zero, List.getElem?_cons_succ, List.getElem?_cons_zero, List.replicate, ite_and', ite_or', ite_int', nI_leI, nI_ltI, nI_eq, nI_add, nI_1, pk_mul, nI_clamp, n_in', nI_pos', nI_pos, n_m1e, n_01, n_10, sT_98, sT_99, sT_100, sT_101, sT_102, sT_103, sT_104, sT_105, sT_106, sT_107, sT_108, sT_109, sT_110, sT_111, sT_112, sT_113, sT_114, sT_115, sT_116, sT_117, sT_118, sT_119, sT_120, sT_121, sT_122, sT_123, sT_124, sT_125, sT_126, sT_127, sT_128, sT_129, sT_130, sT_131, sT_132, sT_133, sT_134, sT_135, sT_136, sT_137, sT_138, sT_139, sT_140, sR_98_1, sR_98_4, sR_98_5, sR_98_6, sR_98_7, sR_98_8, sR_98_9, sR_98_10, sR_98_12, sR_98_13, sR_98_14, sR_98_15, sR_98_16, sR_98_17, sR_98_18, sR_98_19, sR_98_20, sR_98_21, sR_98_22, sR_98_23, sR_98_24, sR_98_25, sR_98_26, sR_98_27, sR_98_28, sR_98_29, sR_98_31, sR_98_34, sR_98_35, sR_98_36, sR_98_42, sR_98_44, sR_98_45, sR_98_47, sR_98_49, sR_98_51, sR_98_56, sR_98_58, sR_98_62, sR_98_65, sR_98_66, sR_98_69, ep, em1, em2, c1]
  rw [if_neg c1]
  have c1' : popN 32 (sPpl A S) = popN 32 S := by simpa using c1
  by_cases c2 : sFree A S = false
  · rw [if_pos c2]
    rw [c2] at ef
    refine ⟨h1, ?_, MX_MW hX1 Wjd_mk, fun x y q => by cases q⟩
    simp (disch := first | assumption | omega) [f_M_judgeOf, body_M_judgeOf, j_meth, j_out, j_rok, j_pad, lg_sl, s_seq_w, isN_inl, isN_inr, s_if, jb, x_c, x_iloc, x_aloc, x_lloc, x_bin, x_un, o_add, o_sub, o_mul, o_and, o_or, o_xor, o_shl, o_shr, o_ushr, o_max, o_min, o_i2b, o_i2c, o_i2l, o_l2i, x_fld, j_fget, x_idx, j_aget, x_len, j_alen, x_ofb, x_ite, xs_nil, xs_cons, x_callv, x_calls, s_callv, s_calls, j_recv, j_ret, j_retv, b_cmp, b_and, b_or, b_not, b_ofi, b_ite, b_true, s_skip, s_set, j_ty, j_lset, j_kill, s_inc, s_fput, j_fput, s_fop, s_aput, j_aput, j_nar, s_aop, s_ret, s_retv, s_go, s_pop, x_linc, x_finc, Value.category, if_icmp.holds, List.flatMap_cons, List.flatMap_nil, List.length_cons, List.length_append, List.length_nil, List.set_cons_succ, List.set_cons_zero, List.getElem?_cons_succ, List.getElem?_cons_zero, List.replicate, ite_and', ite_or', ite_int', nI_leI, nI_ltI, nI_eq, nI_add, nI_1, pk_mul, nI_clamp, n_in', nI_pos', nI_pos, n_m1e, n_01, n_10, sT_98, sT_99, sT_100, sT_101, sT_102, sT_103, sT_104, sT_105, sT_106, sT_107, sT_108, sT_109, sT_110, sT_111, sT_112, sT_113, sT_114, sT_115, sT_116, sT_117, sT_118, sT_119, sT_120, sT_121, sT_122, sT_123, sT_124, sT_125, sT_126, sT_127, sT_128, sT_129, sT_130, sT_131, sT_132, sT_133, sT_134, sT_135, sT_136, sT_137, sT_138, sT_139, sT_140, sR_98_1, sR_98_4, sR_98_5, sR_98_6, sR_98_7, sR_98_8, sR_98_9, sR_98_10, sR_98_12, sR_98_13, sR_98_14, sR_98_15, sR_98_16, sR_98_17, sR_98_18, sR_98_19, sR_98_20, sR_98_21, sR_98_22, sR_98_23, sR_98_24, sR_98_25, sR_98_26, sR_98_27, sR_98_28, sR_98_29, sR_98_31, sR_98_34, sR_98_35, sR_98_36, sR_98_42, sR_98_44, sR_98_45, sR_98_47, sR_98_49, sR_98_51, sR_98_56, sR_98_58, sR_98_62, sR_98_65, sR_98_66, sR_98_69, ep, em1, em2, c1', ef]
  rw [if_neg c2]
  have c2' : sFree A S = true := by simpa using c2
  rw [c2'] at ef
  have hX1' : MW Wjd A h h1 := MX_MW hX1 Wjd_mk
  have hL3 := loop_wp (lb := 1) (lc := 2) (c := lc_M_judgeOf_1) (b := lb_M_judgeOf_1) (u := lu_M_judgeOf_1) (aNo A)
    (fun i st => ∃ j h', st = ([.ref 98, .int (nI S), .int (nI (sWt A S)), .int (nI i), j], h') ∧ MW Wjd A h h' ∧ ∀ m, m < i → (sBrk A S m (sWt A S)).isSome = false)
    (fun r => ∃ L h', MW Wjd A h h' ∧ ((∃ f, r = (.inr (some (.int (nI 3))), (L, h')) ∧ sBk3 A S = some f ∧ hI h' 98 52 = nI f ∧ hI h' 98 53 = nI ((sBrk A S f (sWt A S)).getD 0)) ∨ (∃ j, r = (.inl 0, ([.ref 98, .int (nI S), .int (nI (sWt A S)), .int (nI (aNo A)), j], h')) ∧ sBk3 A S = none)))
    ?_ ?_ ([.ref 98, .int (nI S), .int (nI (sWt A S)), .int (nI 0), .null], h1) ⟨.null, h1, rfl, hX1', fun m hm => by cases hm⟩
  rotate_left
  · rintro i st hi ⟨j, h2, rfl, hX2, hall⟩
    have k2 := hX2.2.1
    have hs2 := k2.1
    have q2 := k2.2.2.2.1.1
    obtain ⟨h3, e3, hX3⟩ := e_M_breaking k2 hX2.2.2 hS (wt := sWt A S) (by omega) hi
    have hX3' := MW_trans hX2 (MX_MW hX3 Wjd_mk)
    have hs3 := hX3.2.1.1
    cases hb : sBrk A S i (sWt A S) with
    | none =>
      left
      rw [hb] at e3
      refine ⟨([.ref 98, .int (nI S), .int (nI (sWt A S)), .int (nI (i + 1)), .int (-1)], h3), ?_, _, _, rfl, hX3', fun m hm => ?_⟩
      · simp (disch := first | assumption | omega) [lstp, lc_M_judgeOf_1, lb_M_judgeOf_1, lu_M_judgeOf_1, j_meth, j_out, j_rok, j_pad, lg_sl, s_seq_w, isN_inl, isN_inr, s_if, jb, x_c, x_iloc, x_aloc, x_lloc, x_bin, x_un, o_add, o_sub, o_mul, o_and, o_or, o_xor, o_shl, o_shr, o_ushr, o_max, o_min, o_i2b, o_i2c, o_i2l, o_l2i, x_fld, j_fget, x_idx, j_aget, x_len, j_alen, x_ofb, x_ite, xs_nil, xs_cons, x_callv, x_calls, s_callv, s_calls, j_recv, j_ret, j_retv, b_cmp, b_and, b_or, b_not, b_ofi, b_ite, b_true, s_skip, s_set, j_ty, j_lset, j_kill, s_inc, s_fput, j_fput, s_fop, s_aput, j_aput, j_nar, s_aop, s_ret, s_retv, s_go, s_pop, x_linc, x_finc, Value.category, if_icmp.holds, List.flatMap_cons, List.flatMap_nil, List.length_cons, List.length_append, List.length_nil, List.set_cons_succ, List.set_cons_zero, List.getElem?_cons_succ, List.getElem?_cons_zero, List.replicate, ite_and', ite_or', ite_int', nI_leI, nI_ltI, nI_eq, nI_add, nI_1, pk_mul, nI_clamp, n_in', nI_pos', nI_pos, n_m1e, n_01, n_10, sT_98, sT_99, sT_100, sT_101, sT_102, sT_103, sT_104, sT_105, sT_106, sT_107, sT_108, sT_109, sT_110, sT_111, sT_112, sT_113, sT_114, sT_115, sT_116, sT_117, sT_118, sT_119, sT_120, sT_121, sT_122, sT_123, sT_124, sT_125, sT_126, sT_127, sT_128, sT_129, sT_130, sT_131, sT_132, sT_133, sT_134, sT_135, sT_136, sT_137, sT_138, sT_139, sT_140, sR_98_1, sR_98_4, sR_98_5, sR_98_6, sR_98_7, sR_98_8, sR_98_9, sR_98_10, sR_98_12, sR_98_13, sR_98_14, sR_98_15, sR_98_16, sR_98_17, sR_98_18, sR_98_19, sR_98_20, sR_98_21, sR_98_22, sR_98_23, sR_98_24, sR_98_25, sR_98_26, sR_98_27, sR_98_28, sR_98_29, sR_98_31, sR_98_34, sR_98_35, sR_98_36, sR_98_42, sR_98_44, sR_98_45, sR_98_47, sR_98_49, sR_98_51, sR_98_56, sR_98_58, sR_98_62, sR_98_65, sR_98_66, sR_98_69, hs2, q2, hi, e3, oI]
      · by_cases e : m = i
        · rw [e, hb]; rfl
        · exact hall m (by omega)
    | some z =>
      right
      rw [hb] at e3
      have hz := sBrk_lt w hb
      have hf3 : sBk3 A S = some i := fst1_of hi (by rw [hb]; rfl) hall
      refine ⟨_, ?_, [.ref 98, .int (nI S), .int (nI (sWt A S)), .int (nI i), .int (nI z)], hSetI (hSetI h3 98 52 (nI i)) 98 53 (nI z), ?_, Or.inl ⟨i, rfl, hf3, ?_, ?_⟩⟩
      · simp (disch := first | assumption | omega) [lstp, lc_M_judgeOf_1, lb_M_judgeOf_1, lu_M_judgeOf_1, j_meth, j_out, j_rok, j_pad, lg_sl, s_seq_w, isN_inl, isN_inr, s_if, jb, x_c, x_iloc, x_aloc, x_lloc, x_bin, x_un, o_add, o_sub, o_mul, o_and, o_or, o_xor, o_shl, o_shr, o_ushr, o_max, o_min, o_i2b, o_i2c, o_i2l, o_l2i, x_fld, j_fget, x_idx, j_aget, x_len, j_alen, x_ofb, x_ite, xs_nil, xs_cons, x_callv, x_calls, s_callv, s_calls, j_recv, j_ret, j_retv, b_cmp, b_and, b_or, b_not, b_ofi, b_ite, b_true, s_skip, s_set, j_ty, j_lset, j_kill, s_inc, s_fput, j_fput, s_fop, s_aput, j_aput, j_nar, s_aop, s_ret, s_retv, s_go, s_pop, x_linc, x_finc, Value.category, if_icmp.holds, List.flatMap_cons, List.flatMap_nil, List.length_cons, List.length_append, List.length_nil, List.set_cons_succ, List.set_cons_zero, List.getElem?_cons_succ, List.getElem?_cons_zero, List.replicate, ite_and', ite_or', ite_int', nI_leI, nI_ltI, nI_eq, nI_add, nI_1, pk_mul, nI_clamp, n_in', nI_pos', nI_pos, n_m1e, n_01, n_10, sT_98, sT_99, sT_100, sT_101, sT_102, sT_103, sT_104, sT_105, sT_106, sT_107, sT_108, sT_109, sT_110, sT_111, sT_112, sT_113, sT_114, sT_115, sT_116, sT_117, sT_118, sT_119, sT_120, sT_121, sT_122, sT_123, sT_124, sT_125, sT_126, sT_127, sT_128, sT_129, sT_130, sT_131, sT_132, sT_133, sT_134, sT_135, sT_136, sT_137, sT_138, sT_139, sT_140, sR_98_1, sR_98_4, sR_98_5, sR_98_6, sR_98_7, sR_98_8, sR_98_9, sR_98_10, sR_98_12, sR_98_13, sR_98_14, sR_98_15, sR_98_16, sR_98_17, sR_98_18, sR_98_19, sR_98_20, sR_98_21, sR_98_22, sR_98_23, sR_98_24, sR_98_25, sR_98_26, sR_98_27, sR_98_28, sR_98_29, sR_98_31, sR_98_34, sR_98_35, sR_98_36, sR_98_42, sR_98_44, sR_98_45, sR_98_47, sR_98_49, sR_98_51, sR_98_56, sR_98_58, sR_98_62, sR_98_65, sR_98_66, sR_98_69, hs2, hs3, q2, hi, e3, oI, hI_setI, hI_setJ, hI_setR, hJ_setI, hJ_setJ, hJ_setR, hR_setI, hR_setJ, hR_setR, hT_setI, hT_setJ, hT_setR, hN_setI, hN_setJ, hN_setR, hS_setI, hS_setJ, hS_setR]
      · refine MW_step (V := fun a k => a = 98 ∧ (k = 52 ∨ k = 53)) hX3' (Fr_trans (Fr_set _ ⟨rfl, Or.inl rfl⟩) (Fr_set _ ⟨rfl, Or.inr rfl⟩)) ?_
        intro a k hv
        unfold Wjd Wmk cM
        omega
      · rw [hI_setI, if_neg (by omega), hI_setI, if_pos ⟨rfl, rfl⟩]
      · rw [hI_setI, if_pos ⟨rfl, rfl⟩, hb]; rfl
  · rintro st ⟨j, h2, rfl, hX2, hall⟩
    have k2 := hX2.2.1
    have hs2 := k2.1
    have q2 := k2.2.2.2.1.1
    refine ⟨(.inl 0, ([.ref 98, .int (nI S), .int (nI (sWt A S)), .int (nI (aNo A)), j], h2)), ?_, [], h2, hX2, Or.inr ⟨j, rfl, fst1_no hall⟩⟩
    simp (disch := first | assumption | omega) [lstp, lc_M_judgeOf_1, lb_M_judgeOf_1, lu_M_judgeOf_1, j_meth, j_out, j_rok, j_pad, lg_sl, s_seq_w, isN_inl, isN_inr, s_if, jb, x_c, x_iloc, x_aloc, x_lloc, x_bin, x_un, o_add, o_sub, o_mul, o_and, o_or, o_xor, o_shl, o_shr, o_ushr, o_max, o_min, o_i2b, o_i2c, o_i2l, o_l2i, x_fld, j_fget, x_idx, j_aget, x_len, j_alen, x_ofb, x_ite, xs_nil, xs_cons, x_callv, x_calls, s_callv, s_calls, j_recv, j_ret, j_retv, b_cmp, b_and, b_or, b_not, b_ofi, b_ite, b_true, s_skip, s_set, j_ty, j_lset, j_kill, s_inc, s_fput, j_fput, s_fop, s_aput, j_aput, j_nar, s_aop, s_ret, s_retv, s_go, s_pop, x_linc, x_finc, Value.category, if_icmp.holds, List.flatMap_cons, List.flatMap_nil, List.length_cons, List.length_append, List.length_nil, List.set_cons_succ, List.set_cons_zero, List.getElem?_cons_succ, List.getElem?_cons_zero, List.replicate, ite_and', ite_or', ite_int', nI_leI, nI_ltI, nI_eq, nI_add, nI_1, pk_mul, nI_clamp, n_in', nI_pos', nI_pos, n_m1e, n_01, n_10, sT_98, sT_99, sT_100, sT_101, sT_102, sT_103, sT_104, sT_105, sT_106, sT_107, sT_108, sT_109, sT_110, sT_111, sT_112, sT_113, sT_114, sT_115, sT_116, sT_117, sT_118, sT_119, sT_120, sT_121, sT_122, sT_123, sT_124, sT_125, sT_126, sT_127, sT_128, sT_129, sT_130, sT_131, sT_132, sT_133, sT_134, sT_135, sT_136, sT_137, sT_138, sT_139, sT_140, sR_98_1, sR_98_4, sR_98_5, sR_98_6, sR_98_7, sR_98_8, sR_98_9, sR_98_10, sR_98_12, sR_98_13, sR_98_14, sR_98_15, sR_98_16, sR_98_17, sR_98_18, sR_98_19, sR_98_20, sR_98_21, sR_98_22, sR_98_23, sR_98_24, sR_98_25, sR_98_26, sR_98_27, sR_98_28, sR_98_29, sR_98_31, sR_98_34, sR_98_35, sR_98_36, sR_98_42, sR_98_44, sR_98_45, sR_98_47, sR_98_49, sR_98_51, sR_98_56, sR_98_58, sR_98_62, sR_98_65, sR_98_66, sR_98_69, hs2, q2]
  obtain ⟨r, hl3, L, h2, hX2, ⟨f, rfl, g1, g2, g3⟩ | ⟨j, rfl, g1⟩⟩ := hL3
  · rw [g1]
    simp only [nI_0] at hl3
    refine ⟨h2, ?_, hX2, fun x y q => ?_⟩
    · simp (disch := first | assumption | omega) [f_M_judgeOf, body_M_judgeOf, j_meth, j_out, j_rok, j_pad, lg_sl, s_seq_w, isN_inl, isN_inr, s_if, jb, x_c, x_iloc, x_aloc, x_lloc, x_bin, x_un, o_add, o_sub, o_mul, o_and, o_or, o_xor, o_shl, o_shr, o_ushr, o_max, o_min, o_i2b, o_i2c, o_i2l, o_l2i, x_fld, j_fget, x_idx, j_aget, x_len, j_alen, x_ofb, x_ite, xs_nil, xs_cons, x_callv, x_calls, s_callv, s_calls, j_recv, j_ret, j_retv, b_cmp, b_and, b_or, b_not, b_ofi, b_ite, b_true, s_skip, s_set, j_ty, j_lset, j_kill, s_inc, s_fput, j_fput, s_fop, s_aput, j_aput, j_nar, s_aop, s_ret, s_retv, s_go, s_pop, x_linc, x_finc, Value.category, if_icmp.holds, List.flatMap_cons, List.flatMap_nil, List.length_cons, List.length_append, List.length_nil, List.set_cons_succ, List.set_cons_zero, List.getElem?_cons_succ, List.getElem?_cons_zero, List.replicate, ite_and', ite_or', ite_int', nI_leI, nI_ltI, nI_eq, nI_add, nI_1, pk_mul, nI_clamp, n_in', nI_pos', nI_pos, n_m1e, n_01, n_10, sT_98, sT_99, sT_100, sT_101, sT_102, sT_103, sT_104, sT_105, sT_106, sT_107, sT_108, sT_109, sT_110, sT_111, sT_112, sT_113, sT_114, sT_115, sT_116, sT_117, sT_118, sT_119, sT_120, sT_121, sT_122, sT_123, sT_124, sT_125, sT_126, sT_127, sT_128, sT_129, sT_130, sT_131, sT_132, sT_133, sT_134, sT_135, sT_136, sT_137, sT_138, sT_139, sT_140, sR_98_1, sR_98_4, sR_98_5, sR_98_6, sR_98_7, sR_98_8, sR_98_9, sR_98_10, sR_98_12, sR_98_13, sR_98_14, sR_98_15, sR_98_16, sR_98_17, sR_98_18, sR_98_19, sR_98_20, sR_98_21, sR_98_22, sR_98_23, sR_98_24, sR_98_25, sR_98_26, sR_98_27, sR_98_28, sR_98_29, sR_98_31, sR_98_34, sR_98_35, sR_98_36, sR_98_42, sR_98_44, sR_98_45, sR_98_47, sR_98_49, sR_98_51, sR_98_56, sR_98_58, sR_98_62, sR_98_65, sR_98_66, sR_98_69, hs1, ep, em1, em2, c1', ef, n_10, ew, hl3, nI_0]
    · simp only [Option.some.injEq, Prod.mk.injEq] at q
      obtain ⟨rfl, rfl⟩ := q
      exact ⟨g2, g3⟩
  rw [g1]
  have hL4 := loop_wp (lb := 3) (lc := 4) (c := lc_M_judgeOf_2) (b := lb_M_judgeOf_2) (u := lu_M_judgeOf_2) (aNc A)
    (fun i st => ∃ j h', st = ([.ref 98, .int (nI S), .int (nI (sWt A S)), .int (nI i), j], h') ∧ MW Wjd A h h' ∧ ∀ m, m < i → (sBrP A S m).isSome = false)
    (fun r => ∃ L h', MW Wjd A h h' ∧ ((∃ f, r = (.inr (some (.int (nI 4))), (L, h')) ∧ sBk4 A S = some f ∧ hI h' 98 52 = nI f ∧ hI h' 98 53 = nI ((sBrP A S f).getD 0)) ∨ (∃ j, r = (.inl 0, ([.ref 98, .int (nI S), .int (nI (sWt A S)), .int (nI (aNc A)), j], h')) ∧ sBk4 A S = none)))
    ?_ ?_ ([.ref 98, .int (nI S), .int (nI (sWt A S)), .int (nI 0), j], h2) ⟨j, h2, rfl, hX2, fun m hm => by cases hm⟩
  rotate_left
  · rintro i st hi ⟨j, h2, rfl, hX2, hall⟩
    have k2 := hX2.2.1
    have hs2 := k2.1
    have q2 := k2.2.2.2.2.2.1.1
    obtain ⟨h3, e3, hX3⟩ := e_M_breakingPair k2 hX2.2.2 hS hi
    have hX3' := MW_trans hX2 (MX_MW hX3 Wjd_mk)
    have hs3 := hX3.2.1.1
    cases hb : sBrP A S i with
    | none =>
      left
      rw [hb] at e3
      refine ⟨([.ref 98, .int (nI S), .int (nI (sWt A S)), .int (nI (i + 1)), .int (-1)], h3), ?_, _, _, rfl, hX3', fun m hm => ?_⟩
      · simp (disch := first | assumption | omega) [lstp, lc_M_judgeOf_2, lb_M_judgeOf_2, lu_M_judgeOf_2, j_meth, j_out, j_rok, j_pad, lg_sl, s_seq_w, isN_inl, isN_inr, s_if, jb, x_c, x_iloc, x_aloc, x_lloc, x_bin, x_un, o_add, o_sub, o_mul, o_and, o_or, o_xor, o_shl, o_shr, o_ushr, o_max, o_min, o_i2b, o_i2c, o_i2l, o_l2i, x_fld, j_fget, x_idx, j_aget, x_len, j_alen, x_ofb, x_ite, xs_nil, xs_cons, x_callv, x_calls, s_callv, s_calls, j_recv, j_ret, j_retv, b_cmp, b_and, b_or, b_not, b_ofi, b_ite, b_true, s_skip, s_set, j_ty, j_lset, j_kill, s_inc, s_fput, j_fput, s_fop, s_aput, j_aput, j_nar, s_aop, s_ret, s_retv, s_go, s_pop, x_linc, x_finc, Value.category, if_icmp.holds, List.flatMap_cons, List.flatMap_nil, List.length_cons, List.length_append, List.length_nil, List.set_cons_succ, List.set_cons_zero, List.getElem?_cons_succ, List.getElem?_cons_zero, List.replicate, ite_and', ite_or', ite_int', nI_leI, nI_ltI, nI_eq, nI_add, nI_1, pk_mul, nI_clamp, n_in', nI_pos', nI_pos, n_m1e, n_01, n_10, sT_98, sT_99, sT_100, sT_101, sT_102, sT_103, sT_104, sT_105, sT_106, sT_107, sT_108, sT_109, sT_110, sT_111, sT_112, sT_113, sT_114, sT_115, sT_116, sT_117, sT_118, sT_119, sT_120, sT_121, sT_122, sT_123, sT_124, sT_125, sT_126, sT_127, sT_128, sT_129, sT_130, sT_131, sT_132, sT_133, sT_134, sT_135, sT_136, sT_137, sT_138, sT_139, sT_140, sR_98_1, sR_98_4, sR_98_5, sR_98_6, sR_98_7, sR_98_8, sR_98_9, sR_98_10, sR_98_12, sR_98_13, sR_98_14, sR_98_15, sR_98_16, sR_98_17, sR_98_18, sR_98_19, sR_98_20, sR_98_21, sR_98_22, sR_98_23, sR_98_24, sR_98_25, sR_98_26, sR_98_27, sR_98_28, sR_98_29, sR_98_31, sR_98_34, sR_98_35, sR_98_36, sR_98_42, sR_98_44, sR_98_45, sR_98_47, sR_98_49, sR_98_51, sR_98_56, sR_98_58, sR_98_62, sR_98_65, sR_98_66, sR_98_69, hs2, q2, hi, e3, oI]
      · by_cases e : m = i
        · rw [e, hb]; rfl
        · exact hall m (by omega)
    | some z =>
      right
      rw [hb] at e3
      have hz := sBrP_lt w hb
      have hf3 : sBk4 A S = some i := fst1_of hi (by rw [hb]; rfl) hall
      refine ⟨_, ?_, [.ref 98, .int (nI S), .int (nI (sWt A S)), .int (nI i), .int (nI z)], hSetI (hSetI h3 98 52 (nI i)) 98 53 (nI z), ?_, Or.inl ⟨i, rfl, hf3, ?_, ?_⟩⟩
      · simp (disch := first | assumption | omega) [lstp, lc_M_judgeOf_2, lb_M_judgeOf_2, lu_M_judgeOf_2, j_meth, j_out, j_rok, j_pad, lg_sl, s_seq_w, isN_inl, isN_inr, s_if, jb, x_c, x_iloc, x_aloc, x_lloc, x_bin, x_un, o_add, o_sub, o_mul, o_and, o_or, o_xor, o_shl, o_shr, o_ushr, o_max, o_min, o_i2b, o_i2c, o_i2l, o_l2i, x_fld, j_fget, x_idx, j_aget, x_len, j_alen, x_ofb, x_ite, xs_nil, xs_cons, x_callv, x_calls, s_callv, s_calls, j_recv, j_ret, j_retv, b_cmp, b_and, b_or, b_not, b_ofi, b_ite, b_true, s_skip, s_set, j_ty, j_lset, j_kill, s_inc, s_fput, j_fput, s_fop, s_aput, j_aput, j_nar, s_aop, s_ret, s_retv, s_go, s_pop, x_linc, x_finc, Value.category, if_icmp.holds, List.flatMap_cons, List.flatMap_nil, List.length_cons, List.length_append, List.length_nil, List.set_cons_succ, List.set_cons_zero, List.getElem?_cons_succ, List.getElem?_cons_zero, List.replicate, ite_and', ite_or', ite_int', nI_leI, nI_ltI, nI_eq, nI_add, nI_1, pk_mul, nI_clamp, n_in', nI_pos', nI_pos, n_m1e, n_01, n_10, sT_98, sT_99, sT_100, sT_101, sT_102, sT_103, sT_104, sT_105, sT_106, sT_107, sT_108, sT_109, sT_110, sT_111, sT_112, sT_113, sT_114, sT_115, sT_116, sT_117, sT_118, sT_119, sT_120, sT_121, sT_122, sT_123, sT_124, sT_125, sT_126, sT_127, sT_128, sT_129, sT_130, sT_131, sT_132, sT_133, sT_134, sT_135, sT_136, sT_137, sT_138, sT_139, sT_140, sR_98_1, sR_98_4, sR_98_5, sR_98_6, sR_98_7, sR_98_8, sR_98_9, sR_98_10, sR_98_12, sR_98_13, sR_98_14, sR_98_15, sR_98_16, sR_98_17, sR_98_18, sR_98_19, sR_98_20, sR_98_21, sR_98_22, sR_98_23, sR_98_24, sR_98_25, sR_98_26, sR_98_27, sR_98_28, sR_98_29, sR_98_31, sR_98_34, sR_98_35, sR_98_36, sR_98_42, sR_98_44, sR_98_45, sR_98_47, sR_98_49, sR_98_51, sR_98_56, sR_98_58, sR_98_62, sR_98_65, sR_98_66, sR_98_69, hs2, hs3, q2, hi, e3, oI, hI_setI, hI_setJ, hI_setR, hJ_setI, hJ_setJ, hJ_setR, hR_setI, hR_setJ, hR_setR, hT_setI, hT_setJ, hT_setR, hN_setI, hN_setJ, hN_setR, hS_setI, hS_setJ, hS_setR]
      · refine MW_step (V := fun a k => a = 98 ∧ (k = 52 ∨ k = 53)) hX3' (Fr_trans (Fr_set _ ⟨rfl, Or.inl rfl⟩) (Fr_set _ ⟨rfl, Or.inr rfl⟩)) ?_
        intro a k hv
        unfold Wjd Wmk cM
        omega
      · rw [hI_setI, if_neg (by omega), hI_setI, if_pos ⟨rfl, rfl⟩]
      · rw [hI_setI, if_pos ⟨rfl, rfl⟩, hb]; rfl
  · rintro st ⟨j, h2, rfl, hX2, hall⟩
    have k2 := hX2.2.1
    have hs2 := k2.1
    have q2 := k2.2.2.2.2.2.1.1
    refine ⟨(.inl 0, ([.ref 98, .int (nI S), .int (nI (sWt A S)), .int (nI (aNc A)), j], h2)), ?_, [], h2, hX2, Or.inr ⟨j, rfl, fst1_no hall⟩⟩
    simp (disch := first | assumption | omega) [lstp, lc_M_judgeOf_2, lb_M_judgeOf_2, lu_M_judgeOf_2, j_meth, j_out, j_rok, j_pad, lg_sl, s_seq_w, isN_inl, isN_inr, s_if, jb, x_c, x_iloc, x_aloc, x_lloc, x_bin, x_un, o_add, o_sub, o_mul, o_and, o_or, o_xor, o_shl, o_shr, o_ushr, o_max, o_min, o_i2b, o_i2c, o_i2l, o_l2i, x_fld, j_fget, x_idx, j_aget, x_len, j_alen, x_ofb, x_ite, xs_nil, xs_cons, x_callv, x_calls, s_callv, s_calls, j_recv, j_ret, j_retv, b_cmp, b_and, b_or, b_not, b_ofi, b_ite, b_true, s_skip, s_set, j_ty, j_lset, j_kill, s_inc, s_fput, j_fput, s_fop, s_aput, j_aput, j_nar, s_aop, s_ret, s_retv, s_go, s_pop, x_linc, x_finc, Value.category, if_icmp.holds, List.flatMap_cons, List.flatMap_nil, List.length_cons, List.length_append, List.length_nil, List.set_cons_succ, List.set_cons_zero, List.getElem?_cons_succ, List.getElem?_cons_zero, List.replicate, ite_and', ite_or', ite_int', nI_leI, nI_ltI, nI_eq, nI_add, nI_1, pk_mul, nI_clamp, n_in', nI_pos', nI_pos, n_m1e, n_01, n_10, sT_98, sT_99, sT_100, sT_101, sT_102, sT_103, sT_104, sT_105, sT_106, sT_107, sT_108, sT_109, sT_110, sT_111, sT_112, sT_113, sT_114, sT_115, sT_116, sT_117, sT_118, sT_119, sT_120, sT_121, sT_122, sT_123, sT_124, sT_125, sT_126, sT_127, sT_128, sT_129, sT_130, sT_131, sT_132, sT_133, sT_134, sT_135, sT_136, sT_137, sT_138, sT_139, sT_140, sR_98_1, sR_98_4, sR_98_5, sR_98_6, sR_98_7, sR_98_8, sR_98_9, sR_98_10, sR_98_12, sR_98_13, sR_98_14, sR_98_15, sR_98_16, sR_98_17, sR_98_18, sR_98_19, sR_98_20, sR_98_21, sR_98_22, sR_98_23, sR_98_24, sR_98_25, sR_98_26, sR_98_27, sR_98_28, sR_98_29, sR_98_31, sR_98_34, sR_98_35, sR_98_36, sR_98_42, sR_98_44, sR_98_45, sR_98_47, sR_98_49, sR_98_51, sR_98_56, sR_98_58, sR_98_62, sR_98_65, sR_98_66, sR_98_69, hs2, q2]
  obtain ⟨r, hl4, L, h3, hX3, ⟨f, rfl, g4, g5, g6⟩ | ⟨j, rfl, g4⟩⟩ := hL4
  · rw [g4]
    simp only [nI_0] at hl3 hl4
    refine ⟨h3, ?_, hX3, fun x y q => ?_⟩
    · simp (disch := first | assumption | omega) [f_M_judgeOf, body_M_judgeOf, j_meth, j_out, j_rok, j_pad, lg_sl, s_seq_w, isN_inl, isN_inr, s_if, jb, x_c, x_iloc, x_aloc, x_lloc, x_bin, x_un, o_add, o_sub, o_mul, o_and, o_or, o_xor, o_shl, o_shr, o_ushr, o_max, o_min, o_i2b, o_i2c, o_i2l, o_l2i, x_fld, j_fget, x_idx, j_aget, x_len, j_alen, x_ofb, x_ite, xs_nil, xs_cons, x_callv, x_calls, s_callv, s_calls, j_recv, j_ret, j_retv, b_cmp, b_and, b_or, b_not, b_ofi, b_ite, b_true, s_skip, s_set, j_ty, j_lset, j_kill, s_inc, s_fput, j_fput, s_fop, s_aput, j_aput, j_nar, s_aop, s_ret, s_retv, s_go, s_pop, x_linc, x_finc, Value.category, if_icmp.holds, List.flatMap_cons, List.flatMap_nil, List.length_cons, List.length_append, List.length_nil, List.set_cons_succ, List.set_cons_zero, List.getElem?_cons_succ, List.getElem?_cons_zero, List.replicate, ite_and', ite_or', ite_int', nI_leI, nI_ltI, nI_eq, nI_add, nI_1, pk_mul, nI_clamp, n_in', nI_pos', nI_pos, n_m1e, n_01, n_10, sT_98, sT_99, sT_100, sT_101, sT_102, sT_103, sT_104, sT_105, sT_106, sT_107, sT_108, sT_109, sT_110, sT_111, sT_112, sT_113, sT_114, sT_115, sT_116, sT_117, sT_118, sT_119, sT_120, sT_121, sT_122, sT_123, sT_124, sT_125, sT_126, sT_127, sT_128, sT_129, sT_130, sT_131, sT_132, sT_133, sT_134, sT_135, sT_136, sT_137, sT_138, sT_139, sT_140, sR_98_1, sR_98_4, sR_98_5, sR_98_6, sR_98_7, sR_98_8, sR_98_9, sR_98_10, sR_98_12, sR_98_13, sR_98_14, sR_98_15, sR_98_16, sR_98_17, sR_98_18, sR_98_19, sR_98_20, sR_98_21, sR_98_22, sR_98_23, sR_98_24, sR_98_25, sR_98_26, sR_98_27, sR_98_28, sR_98_29, sR_98_31, sR_98_34, sR_98_35, sR_98_36, sR_98_42, sR_98_44, sR_98_45, sR_98_47, sR_98_49, sR_98_51, sR_98_56, sR_98_58, sR_98_62, sR_98_65, sR_98_66, sR_98_69, hs1, ep, em1, em2, c1', ef, n_10, ew, hl3, hl4, nI_0]
    · simp only [Option.some.injEq, Prod.mk.injEq] at q
      obtain ⟨rfl, rfl⟩ := q
      exact ⟨g5, g6⟩
  · rw [g4]
    simp only [nI_0] at hl3 hl4
    refine ⟨h3, ?_, hX3, fun x y q => by cases q⟩
    simp (disch := first | assumption | omega) [f_M_judgeOf, body_M_judgeOf, j_meth, j_out, j_rok, j_pad, lg_sl, s_seq_w, isN_inl, isN_inr, s_if, jb, x_c, x_iloc, x_aloc, x_lloc, x_bin, x_un, o_add, o_sub, o_mul, o_and, o_or, o_xor, o_shl, o_shr, o_ushr, o_max, o_min, o_i2b, o_i2c, o_i2l, o_l2i, x_fld, j_fget, x_idx, j_aget, x_len, j_alen, x_ofb, x_ite, xs_nil, xs_cons, x_callv, x_calls, s_callv, s_calls, j_recv, j_ret, j_retv, b_cmp, b_and, b_or, b_not, b_ofi, b_ite, b_true, s_skip, s_set, j_ty, j_lset, j_kill, s_inc, s_fput, j_fput, s_fop, s_aput, j_aput, j_nar, s_aop, s_ret, s_retv, s_go, s_pop, x_linc, x_finc, Value.category, if_icmp.holds, List.flatMap_cons, List.flatMap_nil, List.length_cons, List.length_append, List.length_nil, List.set_cons_succ, List.set_cons_zero, List.getElem?_cons_succ, List.getElem?_cons_zero, List.replicate, ite_and', ite_or', ite_int', nI_leI, nI_ltI, nI_eq, nI_add, nI_1, pk_mul, nI_clamp, n_in', nI_pos', nI_pos, n_m1e, n_01, n_10, sT_98, sT_99, sT_100, sT_101, sT_102, sT_103, sT_104, sT_105, sT_106, sT_107, sT_108, sT_109, sT_110, sT_111, sT_112, sT_113, sT_114, sT_115, sT_116, sT_117, sT_118, sT_119, sT_120, sT_121, sT_122, sT_123, sT_124, sT_125, sT_126, sT_127, sT_128, sT_129, sT_130, sT_131, sT_132, sT_133, sT_134, sT_135, sT_136, sT_137, sT_138, sT_139, sT_140, sR_98_1, sR_98_4, sR_98_5, sR_98_6, sR_98_7, sR_98_8, sR_98_9, sR_98_10, sR_98_12, sR_98_13, sR_98_14, sR_98_15, sR_98_16, sR_98_17, sR_98_18, sR_98_19, sR_98_20, sR_98_21, sR_98_22, sR_98_23, sR_98_24, sR_98_25, sR_98_26, sR_98_27, sR_98_28, sR_98_29, sR_98_31, sR_98_34, sR_98_35, sR_98_36, sR_98_42, sR_98_44, sR_98_45, sR_98_47, sR_98_49, sR_98_51, sR_98_56, sR_98_58, sR_98_62, sR_98_65, sR_98_66, sR_98_69, hs1, ep, em1, em2, c1', ef, n_10, ew, hl3, hl4, nI_0]
