/-! COUPLES that break -/
theorem nfo_and {g : Nat → Bool} : ∀ n, nfo (fun f a => a && g f) n true = (fst1 (fun f => !g f) n).isNone := by
  intro n
  rw [Bool.eq_iff_iff, fst1_all]
  induction n with
  | zero => exact ⟨fun _ m hm => by omega, fun _ => rfl⟩
  | succ n ih =>
    simp only [nfo]
    rw [Bool.and_eq_true, ih]
    constructor
    · rintro ⟨h1, h2⟩ m hm
      by_cases e : m = n
      · rw [e, h2]; rfl
      · exact h1 m (by omega)
    · intro h
      refine ⟨fun m hm => h m (by omega), ?_⟩
      have := h n (by omega)
      simpa using this
theorem and_E {P E T : Nat} (hP : P < 256) (hE : E &&& 255 = T) : P &&& E = P ↔ P &&& T = P := by
  rw [SubB_and, SubB_and]
  have hb : ∀ b, b < 8 → T.testBit b = E.testBit b := fun b hb => by
    rw [← hE, Nat.testBit_and]
    have : (255 : Nat).testBit b = true := by
      have : b = 0 ∨ b = 1 ∨ b = 2 ∨ b = 3 ∨ b = 4 ∨ b = 5 ∨ b = 6 ∨ b = 7 := by omega
      rcases this with rfl | rfl | rfl | rfl | rfl | rfl | rfl | rfl <;> decide
    rw [this, Bool.and_true]
  constructor
  · intro h b q; rw [hb b (bits_lt (n := 8) hP q)]; exact h b q
  · intro h b q; rw [← hb b (bits_lt (n := 8) hP q)]; exact h b q
def ptP (A : AS) (mv : Nat → Nat) (Q L o : Nat) : Bool := !(prt o (slM A Q) &&& tP A o (mv o) (prt o (slM A (Q ||| L))) == prt o (slM A Q))
theorem ptP_ok {A : AS} (w : WF A) (mv : Nat → Nat) (Q L o : Nat) : ptP A mv Q L o = !sAsk (aMv A mv) L Q o := by
  unfold ptP sAsk
  congr 1
  have hof : sOff (aMv A mv) o = sOff A o := rfl
  rw [hof]
  have hQ := prt_slM_lt w o Q
  have hT := (tP_spec w (l := mv o) (prt_slM_lt w o (Q ||| L))).1
  have eQ := pSet_prt w (f := o) (S := Q)
  have eT := tPm_set w mv o (Q ||| L)
  have h1 : (L &&& sOff A o) ||| (Q &&& sOff A o) = (Q ||| L) &&& sOff A o := by
    apply Nat.eq_of_testBit_eq
    intro j
    simp only [Nat.testBit_and, Nat.testBit_or]
    cases (sOff A o).testBit j <;> cases L.testBit j <;> simp
  have h2 := sTk_off (WF_mv w mv) o (Q ||| L)
  rw [hof] at h2
  rw [h1, h2]
  rw [Bool.eq_iff_iff, beq_iff_eq, SubB_and, ← SubB_pS w hT hQ, eQ, eT, Bool.or_eq_true, beq_iff_eq, beq_iff_eq]
  constructor
  · intro h
    right
    rw [Nat.and_comm]
    exact SubB_and.mpr h
  · rintro (h | h)
    · rw [h]; intro b hb; simp at hb
    · rw [Nat.and_comm] at h; exact SubB_and.mp h
theorem e_Ma_isPairTaken {A : AS} {mv : Nat → Nat} {h : jHp} (x : MV A mv h) (Q L : Nat) : f_Ma_isPairTaken [.ref 71, .int (nI (slM A Q)), .int (nI (slM A L))] h = some (some (.int (if sPTk (aMv A mv) L Q then 1 else 0)), h) := by
  have hs := x.1.1.1
  have w := x.1.1.2.1
  have hno := w.2.1
  have hX := slM_lt w Q
  have hY := slM_lt w L
  have hsp : sPTk (aMv A mv) L Q = (fst1 (ptP A mv Q L) 4).isNone := by
    have hn : aNo (aMv A mv) = aNo A := rfl
    unfold sPTk
    rw [hn, nfo_and, fst1_congr (p := ptP A mv Q L) (q := fun f => !sAsk (aMv A mv) L Q f) fun o _ => ptP_ok w mv Q L o]
    congr 1
    refine (fst1_ext hno fun i h1 h2 => ?_).symm
    unfold sAsk
    have hof : sOff (aMv A mv) i = sOff A i := rfl
    rw [hof, sOff_hi w h1, Nat.and_zero]
    rfl
  rw [hsp]
  have step : ∀ o v, o < 4 → ∃ v', lstp 1 2 lc_Ma_isPairTaken_1 lb_Ma_isPairTaken_1 lu_Ma_isPairTaken_1 ([.ref 71, .int (nI (slM A Q)), .int (nI (slM A L)), .int (nI o), v], h) = some (if ptP A mv Q L o = true then .inr (.inr (some (.int (nI 0))), ([.ref 71, .int (nI (slM A Q)), .int (nI (slM A L)), .int (nI o), v'], h)) else .inl ([.ref 71, .int (nI (slM A Q)), .int (nI (slM A L)), .int (nI (o + 1)), v'], h)) := by
    intro o v ho
    have ep := e_B_partOf (h := h) ho hX
    have ep2 := e_B_partOf (h := h) ho hY
    have ee := e_Ma_entryT x (S := Q ||| L) ho
    have hE := tE_and A o (mv o) (prt o (slM A (Q ||| L)))
    have hor : nI (prt o (slM A Q)) ||| nI (prt o (slM A L)) = nI (prt o (slM A (Q ||| L))) := by rw [n_or, slM_or, prt_or]
    have hl := prt_lt o (slM A Q)
    have hai : (nI (prt o (slM A Q)) &&& ~~~ nI (tE A o (mv o) (prt o (slM A (Q ||| L)))) = 0) = (prt o (slM A Q) &&& tP A o (mv o) (prt o (slM A (Q ||| L))) = prt o (slM A Q)) := by
      rw [n_not, n_and, propext (n_eq0 (Nat.lt_of_le_of_lt Nat.and_le_left (by omega))), propext (and_inv (by omega)), propext (and_E hl hE)]
    refine ⟨.int (nI (prt o (slM A Q))), ?_⟩
    unfold ptP
    generalize tE A o (mv o) (prt o (slM A (Q ||| L))) = E at *
    generalize tP A o (mv o) (prt o (slM A (Q ||| L))) = T at *
    generalize prt o (slM A (Q ||| L)) = QL at *
    generalize prt o (slM A Q) = PQ at *
    by_cases z : PQ &&& T = PQ
    · simp (disch := first | assumption | omega) [lstp, lc_Ma_isPairTaken_1, lb_Ma_isPairTaken_1, lu_Ma_isPairTaken_1, j_meth, j_out, j_rok, j_pad, lg_sl, s_seq_w, isN_inl, isN_inr, s_if, jb, x_c, x_iloc, x_aloc, x_lloc, x_bin, x_un, o_add, o_sub, o_mul, o_and, o_or, o_xor, o_shl, o_shr, o_ushr, o_max, o_min, o_i2b, o_i2c, o_i2l, o_l2i, x_fld, j_fget, x_idx, j_aget, x_len, j_alen, x_ofb, x_ite, xs_nil, xs_cons, x_callv, x_calls, s_callv, s_calls, j_recv, j_ret, j_retv, b_cmp, b_and, b_or, b_not, b_ofi, b_ite, b_true, s_skip, s_set, j_ty, j_lset, j_kill, s_inc, s_fput, j_fput, s_fop, s_aput, j_aput, j_nar, s_aop, s_ret, s_retv, s_go, s_pop, x_linc, x_finc, Value.category, if_icmp.holds, List.flatMap_cons, List.flatMap_nil, List.length_cons, List.length_append, List.length_nil, List.set_cons_succ, List.set_cons_zero, List.getElem?_cons_succ, List.getElem?_cons_zero, List.replicate, ite_and', ite_or', ite_int', nI_leI, nI_ltI, nI_eq, nI_add, nI_1, pk_mul, nI_clamp, n_in', nI_pos', nI_pos, n_m1e, n_01, n_10, sT_1, sR_1_0, sR_1_1, sR_1_2, sR_1_3, sR_1_4, sR_1_5, sR_1_6, sR_1_7, sR_1_8, sR_1_9, sT_2, sT_3, sT_4, sT_5, sT_6, sT_7, sT_8, sT_9, sT_10, sT_11, sT_12, sT_13, sT_14, sR_2_1, sR_2_2, sR_2_3, sR_2_4, sR_2_5, sR_2_6, sR_2_7, sR_2_8, sR_2_9, sR_2_10, sR_2_11, sR_2_12, sT_15, sT_16, sT_17, sT_18, sT_19, sT_20, sT_21, sT_22, sT_23, sR_15_1, sR_15_2, sR_15_3, sR_15_4, sR_15_5, sR_15_6, sR_15_7, sR_15_8, sT_24, sT_25, sT_26, sT_27, sT_28, sT_29, sR_24_1, sR_24_2, sR_24_3, sR_24_4, sR_24_5, sT_71, sT_72, sR_71_0, sR_71_1, sR_71_2, sR_71_3, sR_71_4, sT_73, sT_74, sT_75, sR_73_0, sR_73_1, sR_73_2, sR_73_3, sR_73_4, sR_73_5, sT_84, sT_85, sT_86, sT_87, sR_84_0, sR_84_1, sR_84_2, sR_84_3, sR_84_4, sR_84_5, sT_88, sT_89, sR_88_0, sT_90, sT_91, sR_90_0, ho, ep, ep2, hor, ee, hai, z]
    · simp (disch := first | assumption | omega) [lstp, lc_Ma_isPairTaken_1, lb_Ma_isPairTaken_1, lu_Ma_isPairTaken_1, j_meth, j_out, j_rok, j_pad, lg_sl, s_seq_w, isN_inl, isN_inr, s_if, jb, x_c, x_iloc, x_aloc, x_lloc, x_bin, x_un, o_add, o_sub, o_mul, o_and, o_or, o_xor, o_shl, o_shr, o_ushr, o_max, o_min, o_i2b, o_i2c, o_i2l, o_l2i, x_fld, j_fget, x_idx, j_aget, x_len, j_alen, x_ofb, x_ite, xs_nil, xs_cons, x_callv, x_calls, s_callv, s_calls, j_recv, j_ret, j_retv, b_cmp, b_and, b_or, b_not, b_ofi, b_ite, b_true, s_skip, s_set, j_ty, j_lset, j_kill, s_inc, s_fput, j_fput, s_fop, s_aput, j_aput, j_nar, s_aop, s_ret, s_retv, s_go, s_pop, x_linc, x_finc, Value.category, if_icmp.holds, List.flatMap_cons, List.flatMap_nil, List.length_cons, List.length_append, List.length_nil, List.set_cons_succ, List.set_cons_zero, List.getElem?_cons_succ, List.getElem?_cons_zero, List.replicate, ite_and', ite_or', ite_int', nI_leI, nI_ltI, nI_eq, nI_add, nI_1, pk_mul, nI_clamp, n_in', nI_pos', nI_pos, n_m1e, n_01, n_10, sT_1, sR_1_0, sR_1_1, sR_1_2, sR_1_3, sR_1_4, sR_1_5, sR_1_6, sR_1_7, sR_1_8, sR_1_9, sT_2, sT_3, sT_4, sT_5, sT_6, sT_7, sT_8, sT_9, sT_10, sT_11, sT_12, sT_13, sT_14, sR_2_1, sR_2_2, sR_2_3, sR_2_4, sR_2_5, sR_2_6, sR_2_7, sR_2_8, sR_2_9, sR_2_10, sR_2_11, sR_2_12, sT_15, sT_16, sT_17, sT_18, sT_19, sT_20, sT_21, sT_22, sT_23, sR_15_1, sR_15_2, sR_15_3, sR_15_4, sR_15_5, sR_15_6, sR_15_7, sR_15_8, sT_24, sT_25, sT_26, sT_27, sT_28, sT_29, sR_24_1, sR_24_2, sR_24_3, sR_24_4, sR_24_5, sT_71, sT_72, sR_71_0, sR_71_1, sR_71_2, sR_71_3, sR_71_4, sT_73, sT_74, sT_75, sR_73_0, sR_73_1, sR_73_2, sR_73_3, sR_73_4, sR_73_5, sT_84, sT_85, sT_86, sT_87, sR_84_0, sR_84_1, sR_84_2, sR_84_3, sR_84_4, sR_84_5, sT_88, sT_89, sR_88_0, sT_90, sT_91, sR_90_0, ho, ep, ep2, hor, ee, hai, z]
  generalize ptP A mv Q L = pp at *
  have hL := loop_wp (lb := 1) (lc := 2) (c := lc_Ma_isPairTaken_1) (b := lb_Ma_isPairTaken_1) (u := lu_Ma_isPairTaken_1) 4
    (fun o st => ∃ v, st = ([.ref 71, .int (nI (slM A Q)), .int (nI (slM A L)), .int (nI o), v], h) ∧ ∀ m, m < o → pp m = false)
    (fun r => ∃ K, (r = (.inr (some (.int (nI 0))), (K, h)) ∧ (fst1 pp 4).isNone = false) ∨ (r = (.inl 0, (K, h)) ∧ (fst1 pp 4).isNone = true))
    ?_ ?_ ([.ref 71, .int (nI (slM A Q)), .int (nI (slM A L)), .int (nI 0), .null], h) ⟨_, rfl, fun m hm => by omega⟩
  · obtain ⟨r, e, K, ⟨rfl, hf⟩ | ⟨rfl, hf⟩⟩ := hL
    · rw [hf]
      simp only [nI_0] at e
      simp (disch := first | assumption | omega) [f_Ma_isPairTaken, body_Ma_isPairTaken, j_meth, j_out, j_rok, j_pad, lg_sl, s_seq_w, isN_inl, isN_inr, s_if, jb, x_c, x_iloc, x_aloc, x_lloc, x_bin, x_un, o_add, o_sub, o_mul, o_and, o_or, o_xor, o_shl, o_shr, o_ushr, o_max, o_min, o_i2b, o_i2c, o_i2l, o_l2i, x_fld, j_fget, x_idx, j_aget, x_len, j_alen, x_ofb, x_ite, xs_nil, xs_cons, x_callv, x_calls, s_callv, s_calls, j_recv, j_ret, j_retv, b_cmp, b_and, b_or, b_not, b_ofi, b_ite, b_true, s_skip, s_set, j_ty, j_lset, j_kill, s_inc, s_fput, j_fput, s_fop, s_aput, j_aput, j_nar, s_aop, s_ret, s_retv, s_go, s_pop, x_linc, x_finc, Value.category, if_icmp.holds, List.flatMap_cons, List.flatMap_nil, List.length_cons, List.length_append, List.length_nil, List.set_cons_succ, List.set_cons_zero, List.getElem?_cons_succ, List.getElem?_cons_zero, List.replicate, ite_and', ite_or', ite_int', nI_leI, nI_ltI, nI_eq, nI_add, nI_1, pk_mul, nI_clamp, n_in', nI_pos', nI_pos, n_m1e, n_01, n_10, sT_1, sR_1_0, sR_1_1, sR_1_2, sR_1_3, sR_1_4, sR_1_5, sR_1_6, sR_1_7, sR_1_8, sR_1_9, sT_2, sT_3, sT_4, sT_5, sT_6, sT_7, sT_8, sT_9, sT_10, sT_11, sT_12, sT_13, sT_14, sR_2_1, sR_2_2, sR_2_3, sR_2_4, sR_2_5, sR_2_6, sR_2_7, sR_2_8, sR_2_9, sR_2_10, sR_2_11, sR_2_12, sT_15, sT_16, sT_17, sT_18, sT_19, sT_20, sT_21, sT_22, sT_23, sR_15_1, sR_15_2, sR_15_3, sR_15_4, sR_15_5, sR_15_6, sR_15_7, sR_15_8, sT_24, sT_25, sT_26, sT_27, sT_28, sT_29, sR_24_1, sR_24_2, sR_24_3, sR_24_4, sR_24_5, sT_71, sT_72, sR_71_0, sR_71_1, sR_71_2, sR_71_3, sR_71_4, sT_73, sT_74, sT_75, sR_73_0, sR_73_1, sR_73_2, sR_73_3, sR_73_4, sR_73_5, sT_84, sT_85, sT_86, sT_87, sR_84_0, sR_84_1, sR_84_2, sR_84_3, sR_84_4, sR_84_5, sT_88, sT_89, sR_88_0, sT_90, sT_91, sR_90_0, nI_0, e]
    · rw [hf]
      simp only [nI_0] at e
      simp (disch := first | assumption | omega) [f_Ma_isPairTaken, body_Ma_isPairTaken, j_meth, j_out, j_rok, j_pad, lg_sl, s_seq_w, isN_inl, isN_inr, s_if, jb, x_c, x_iloc, x_aloc, x_lloc, x_bin, x_un, o_add, o_sub, o_mul, o_and, o_or, o_xor, o_shl, o_shr, o_ushr, o_max, o_min, o_i2b, o_i2c, o_i2l, o_l2i, x_fld, j_fget, x_idx, j_aget, x_len, j_alen, x_ofb, x_ite, xs_nil, xs_cons, x_callv, x_calls, s_callv, s_calls, j_recv, j_ret, j_retv, b_cmp, b_and, b_or, b_not, b_ofi, b_ite, b_true, s_skip, s_set, j_ty, j_lset, j_kill, s_inc, s_fput, j_fput, s_fop, s_aput, j_aput, j_nar, s_aop, s_ret, s_retv, s_go, s_pop, x_linc, x_finc, Value.category, if_icmp.holds, List.flatMap_cons, List.flatMap_nil, List.length_cons, List.length_append, List.length_nil, List.set_cons_succ, List.set_cons_zero, List.getElem?_cons_succ, List.getElem?_cons_zero, List.replicate, ite_and', ite_or', ite_int', nI_leI, nI_ltI, nI_eq, nI_add, nI_1, pk_mul, nI_clamp, n_in', nI_pos', nI_pos, n_m1e, n_01, n_10, sT_1, sR_1_0, sR_1_1, sR_1_2, sR_1_3, sR_1_4, sR_1_5, sR_1_6, sR_1_7, sR_1_8, sR_1_9, sT_2, sT_3, sT_4, sT_5, sT_6, sT_7, sT_8, sT_9, sT_10, sT_11, sT_12, sT_13, sT_14, sR_2_1, sR_2_2, sR_2_3, sR_2_4, sR_2_5, sR_2_6, sR_2_7, sR_2_8, sR_2_9, sR_2_10, sR_2_11, sR_2_12, sT_15, sT_16, sT_17, sT_18, sT_19, sT_20, sT_21, sT_22, sT_23, sR_15_1, sR_15_2, sR_15_3, sR_15_4, sR_15_5, sR_15_6, sR_15_7, sR_15_8, sT_24, sT_25, sT_26, sT_27, sT_28, sT_29, sR_24_1, sR_24_2, sR_24_3, sR_24_4, sR_24_5, sT_71, sT_72, sR_71_0, sR_71_1, sR_71_2, sR_71_3, sR_71_4, sT_73, sT_74, sT_75, sR_73_0, sR_73_1, sR_73_2, sR_73_3, sR_73_4, sR_73_5, sT_84, sT_85, sT_86, sT_87, sR_84_0, sR_84_1, sR_84_2, sR_84_3, sR_84_4, sR_84_5, sT_88, sT_89, sR_88_0, sT_90, sT_91, sR_90_0, nI_0, e, n_e1]
  · rintro o st ho ⟨v, rfl, hall⟩
    obtain ⟨v', e⟩ := step o v ho
    by_cases z : pp o = true
    · rw [if_pos z] at e
      exact Or.inr ⟨_, e, _, Or.inl ⟨rfl, fst1_isS ho z hall⟩⟩
    · rw [if_neg z] at e
      refine Or.inl ⟨_, e, v', rfl, fun m hm => ?_⟩
      by_cases q : m = o
      · rw [q]; simpa using z
      · exact hall m (by omega)
  · rintro st ⟨v, rfl, hall⟩
    refine ⟨(.inl 0, ([.ref 71, .int (nI (slM A Q)), .int (nI (slM A L)), .int (nI 4), v], h)), ?_, _, Or.inr ⟨rfl, fst1_isN hall⟩⟩
    simp (disch := first | assumption | omega) [lstp, lc_Ma_isPairTaken_1, lb_Ma_isPairTaken_1, lu_Ma_isPairTaken_1, j_meth, j_out, j_rok, j_pad, lg_sl, s_seq_w, isN_inl, isN_inr, s_if, jb, x_c, x_iloc, x_aloc, x_lloc, x_bin, x_un, o_add, o_sub, o_mul, o_and, o_or, o_xor, o_shl, o_shr, o_ushr, o_max, o_min, o_i2b, o_i2c, o_i2l, o_l2i, x_fld, j_fget, x_idx, j_aget, x_len, j_alen, x_ofb, x_ite, xs_nil, xs_cons, x_callv, x_calls, s_callv, s_calls, j_recv, j_ret, j_retv, b_cmp, b_and, b_or, b_not, b_ofi, b_ite, b_true, s_skip, s_set, j_ty, j_lset, j_kill, s_inc, s_fput, j_fput, s_fop, s_aput, j_aput, j_nar, s_aop, s_ret, s_retv, s_go, s_pop, x_linc, x_finc, Value.category, if_icmp.holds, List.flatMap_cons, List.flatMap_nil, List.length_cons, List.length_append, List.length_nil, List.set_cons_succ, List.set_cons_zero, List.getElem?_cons_succ, List.getElem?_cons_zero, List.replicate, ite_and', ite_or', ite_int', nI_leI, nI_ltI, nI_eq, nI_add, nI_1, pk_mul, nI_clamp, n_in', nI_pos', nI_pos, n_m1e, n_01, n_10, sT_1, sR_1_0, sR_1_1, sR_1_2, sR_1_3, sR_1_4, sR_1_5, sR_1_6, sR_1_7, sR_1_8, sR_1_9, sT_2, sT_3, sT_4, sT_5, sT_6, sT_7, sT_8, sT_9, sT_10, sT_11, sT_12, sT_13, sT_14, sR_2_1, sR_2_2, sR_2_3, sR_2_4, sR_2_5, sR_2_6, sR_2_7, sR_2_8, sR_2_9, sR_2_10, sR_2_11, sR_2_12, sT_15, sT_16, sT_17, sT_18, sT_19, sT_20, sT_21, sT_22, sT_23, sR_15_1, sR_15_2, sR_15_3, sR_15_4, sR_15_5, sR_15_6, sR_15_7, sR_15_8, sT_24, sT_25, sT_26, sT_27, sT_28, sT_29, sR_24_1, sR_24_2, sR_24_3, sR_24_4, sR_24_5, sT_71, sT_72, sR_71_0, sR_71_1, sR_71_2, sR_71_3, sR_71_4, sT_73, sT_74, sT_75, sR_73_0, sR_73_1, sR_73_2, sR_73_3, sR_73_4, sR_73_5, sT_84, sT_85, sT_86, sT_87, sR_84_0, sR_84_1, sR_84_2, sR_84_3, sR_84_4, sR_84_5, sT_88, sT_89, sR_88_0, sT_90, sT_91, sR_90_0]
theorem slP_bit (A : AS) (p j : Nat) : (slP A p).testBit j = true ↔ ∃ b, b < aNb A ∧ aPe A b = p ∧ sSlot A b = j := by
  unfold slP
  refine (or_bits (fun b => aPe A b == p) (fun b => sSlot A b) (aNb A) j).trans ?_
  simp only [beq_iff_eq]
theorem slP_lt {A : AS} (w : WF A) (p : Nat) : slP A p < 2 ^ 32 := lt_of_bits fun i hi => by
  obtain ⟨b, h1, -, h3⟩ := (slP_bit A p i).mp hi
  have := sSlot_lt w h1
  omega
theorem sCpl_iff {A : AS} (w : WF A) {c p : Nat} (hc : c < aNc A) : sCpl A p = some c ↔ aC1 A c = p ∨ aC2 A c = p := by
  constructor
  · intro h
    have := (fst1_some h).2.1
    simpa using this
  · intro h
    refine fst1_of hc (by simpa using h) fun d hd => ?_
    have hdc := w.2.2.2.2.1.2.2.1 d c (by omega) hc (by omega)
    have hdc' := w.2.2.2.2.1.2.2.1 c d hc (by omega) (by omega)
    cases q : (aC1 A d == p || aC2 A d == p) with
    | false => rfl
    | true =>
      simp only [Bool.or_eq_true, beq_iff_eq] at q
      rcases h with h | h <;> rcases q with q | q
      · exact absurd (q.trans h.symm) hdc.1
      · exact absurd (h.trans q.symm) hdc'.2.1
      · exact absurd (q.trans h.symm) hdc.2.1
      · exact absurd (q.trans h.symm) hdc.2.2
theorem sLes_bit {A : AS} {S c b : Nat} (hb : b < aNb A) (h20 : aNb A ≤ 20) : (sLes A S c).testBit b = (S.testBit b && !(sCpl A (aPe A b) == some c)) := by
  unfold sLes
  have key : ∀ n, n ≤ aNb A → (nfo (fun b m => if sCpl A (aPe A b) == some c then m &&& (2 ^ b ^^^ 4294967295) else m) n S).testBit b = (S.testBit b && !(decide (b < n) && sCpl A (aPe A b) == some c)) := by
    intro n
    induction n with
    | zero => intro _; simp [nfo]
    | succ n ih =>
      intro hn
      have ih := ih (by omega)
      simp only [nfo]
      by_cases q : (sCpl A (aPe A n) == some c) = true
      · rw [if_pos q, Nat.testBit_and, ih, xor_all (by omega), Nat.testBit_two_pow]
        by_cases e : n = b
        · subst e; rw [q]; simp
        · have e2 : decide (b < n + 1) = decide (b < n) := decide_eq_decide.mpr (by omega)
          rw [e2]; simp [e]
      · rw [if_neg q, ih]
        by_cases e : n = b
        · subst e
          have q' : (sCpl A (aPe A n) == some c) = false := by simpa using q
          rw [q']; simp
        · have e2 : decide (b < n + 1) = decide (b < n) := decide_eq_decide.mpr (by omega)
          rw [e2]
  rw [key _ (Nat.le_refl _)]
  simp [hb]
theorem les_sl {A : AS} (w : WF A) {S c : Nat} (hc : c < aNc A) : slM A S &&& ((slP A (aC1 A c) ||| slP A (aC2 A c)) ^^^ 4294967295) = slM A (sLes A S c) := by
  have h20 := w.2.2.1.1
  apply Nat.eq_of_testBit_eq
  intro j
  rw [Bool.eq_iff_iff, Nat.testBit_and, Bool.and_eq_true]
  have h1 := slM_bit A S (aNb A) j
  have h2 := slM_bit A (sLes A S c) (aNb A) j
  unfold slM
  rw [h1, h2]
  constructor
  · rintro ⟨⟨b, b1, b2, b3⟩, q⟩
    refine ⟨b, b1, ?_, b3⟩
    rw [sLes_bit b1 h20, b2]
    have hj := sSlot_lt w b1
    rw [b3] at hj
    rw [xor_all hj, Nat.testBit_or] at q
    cases z : (sCpl A (aPe A b) == some c) with
    | false => rfl
    | true =>
      rcases (sCpl_iff w hc).mp (beq_iff_eq.mp z) with y | y
      · rw [(slP_bit A _ j).mpr ⟨b, b1, y.symm, b3⟩] at q; simp at q
      · rw [(slP_bit A (aC2 A c) j).mpr ⟨b, b1, y.symm, b3⟩] at q; simp at q
  · rintro ⟨b, b1, b2, b3⟩
    rw [sLes_bit b1 h20, Bool.and_eq_true] at b2
    refine ⟨⟨b, b1, b2.1, b3⟩, ?_⟩
    have hj := sSlot_lt w b1
    rw [b3] at hj
    rw [xor_all hj, Nat.testBit_or]
    cases z : ((slP A (aC1 A c)).testBit j || (slP A (aC2 A c)).testBit j) with
    | false => rfl
    | true =>
      rw [Bool.or_eq_true] at z
      have hcp : sCpl A (aPe A b) = some c := by
        rw [sCpl_iff w hc]
        rcases z with y | y
        · obtain ⟨d, d1, d2, d3⟩ := (slP_bit A _ j).mp y
          have := sSlot_inj w d1 b1 (d3.trans b3.symm)
          subst this; exact Or.inl d2.symm
        · obtain ⟨d, d1, d2, d3⟩ := (slP_bit A _ j).mp y
          have := sSlot_inj w d1 b1 (d3.trans b3.symm)
          subst this; exact Or.inr d2.symm
      rw [hcp] at b2
      simp at b2
theorem e_Ma_breakingPair {A : AS} {mv : Nat → Nat} {h : jHp} (x : MV A mv h) {c S : Nat} (hc : c < aNc A) (hS : S < 2 ^ aNb A) (hm : sMat A S) : f_Ma_breakingPair [.ref 71, .int (nI c), .int (nI S), .int (nI (slM A S))] h = some (some (.int (oI (sBrP (aMv A mv) S c))), h) := by
  have hs := x.1.1.1
  have w := x.1.1.2.1
  have cb := x.1.1.2.2.1
  have cc := x.1.2
  have hn := w.1.1
  have hc2 := w.2.2.2.2.1.1
  obtain ⟨q1, q2, -⟩ := w.2.2.2.2.1.2.1 c hc
  obtain ⟨c25, c26⟩ := cc.2.1 c hc
  have s1 := (cb.2.2.2 (aC1 A c) (by omega)).2.2
  have s2 := (cb.2.2.2 (aC2 A c) (by omega)).2.2
  have er := e_Ma_rankOfCouple x.1 hc hS hm
  have hles : nI (slM A S) &&& ~~~ nI (slP A (aC1 A c) ||| slP A (aC2 A c)) = nI (slM A (sLes A S c)) := by rw [n_not, n_and, les_sl w hc]
  have hsp : sBrP (aMv A mv) S c = fst1 (fun k => sPTk (aMv A mv) (sLes A S c) (prM ((aPl A c).getD k (none, none)))) ((sRkc A S c).getD 0) := rfl
  rw [hsp]
  cases hk : sRkc A S c with
  | none =>
    rw [hk, oI_n] at er
    simp only [Option.getD_none]
    have h0 : fst1 (fun k => sPTk (aMv A mv) (sLes A S c) (prM ((aPl A c).getD k (none, none)))) 0 = none := rfl
    rw [h0, oI_n]
    have hlt : ¬ (0 : Int32) < -1 := by decide
    have hL : s_loop 1 2 lc_Ma_breakingPair_1 lb_Ma_breakingPair_1 lu_Ma_breakingPair_1 ([.ref 71, .int (nI c), .int (nI S), .int (nI (slM A S)), .int (-1), .int (nI (slP A (aC1 A c) ||| slP A (aC2 A c))), .int 0], h) = some (.inl 0, ([.ref 71, .int (nI c), .int (nI S), .int (nI (slM A S)), .int (-1), .int (nI (slP A (aC1 A c) ||| slP A (aC2 A c))), .int 0], h)) := s_loop_inr (by simp (disch := first | assumption | omega) [lstp, lc_Ma_breakingPair_1, lb_Ma_breakingPair_1, lu_Ma_breakingPair_1, j_meth, j_out, j_rok, j_pad, lg_sl, s_seq_w, isN_inl, isN_inr, s_if, jb, x_c, x_iloc, x_aloc, x_lloc, x_bin, x_un, o_add, o_sub, o_mul, o_and, o_or, o_xor, o_shl, o_shr, o_ushr, o_max, o_min, o_i2b, o_i2c, o_i2l, o_l2i, x_fld, j_fget, x_idx, j_aget, x_len, j_alen, x_ofb, x_ite, xs_nil, xs_cons, x_callv, x_calls, s_callv, s_calls, j_recv, j_ret, j_retv, b_cmp, b_and, b_or, b_not, b_ofi, b_ite, b_true, s_skip, s_set, j_ty, j_lset, j_kill, s_inc, s_fput, j_fput, s_fop, s_aput, j_aput, j_nar, s_aop, s_ret, s_retv, s_go, s_pop, x_linc, x_finc, Value.category, if_icmp.holds, List.flatMap_cons, List.flatMap_nil, List.length_cons, List.length_append, List.length_nil, List.set_cons_succ, List.set_cons_zero, List.getElem?_cons_succ, List.getElem?_cons_zero, List.replicate, ite_and', ite_or', ite_int', nI_leI, nI_ltI, nI_eq, nI_add, nI_1, pk_mul, nI_clamp, n_in', nI_pos', nI_pos, n_m1e, n_01, n_10, sT_1, sR_1_0, sR_1_1, sR_1_2, sR_1_3, sR_1_4, sR_1_5, sR_1_6, sR_1_7, sR_1_8, sR_1_9, sT_2, sT_3, sT_4, sT_5, sT_6, sT_7, sT_8, sT_9, sT_10, sT_11, sT_12, sT_13, sT_14, sR_2_1, sR_2_2, sR_2_3, sR_2_4, sR_2_5, sR_2_6, sR_2_7, sR_2_8, sR_2_9, sR_2_10, sR_2_11, sR_2_12, sT_15, sT_16, sT_17, sT_18, sT_19, sT_20, sT_21, sT_22, sT_23, sR_15_1, sR_15_2, sR_15_3, sR_15_4, sR_15_5, sR_15_6, sR_15_7, sR_15_8, sT_24, sT_25, sT_26, sT_27, sT_28, sT_29, sR_24_1, sR_24_2, sR_24_3, sR_24_4, sR_24_5, sT_71, sT_72, sR_71_0, sR_71_1, sR_71_2, sR_71_3, sR_71_4, sT_73, sT_74, sT_75, sR_73_0, sR_73_1, sR_73_2, sR_73_3, sR_73_4, sR_73_5, sT_84, sT_85, sT_86, sT_87, sR_84_0, sR_84_1, sR_84_2, sR_84_3, sR_84_4, sR_84_5, sT_88, sT_89, sR_88_0, sT_90, sT_91, sR_90_0, hlt])
    simp (disch := first | assumption | omega) [f_Ma_breakingPair, body_Ma_breakingPair, j_meth, j_out, j_rok, j_pad, lg_sl, s_seq_w, isN_inl, isN_inr, s_if, jb, x_c, x_iloc, x_aloc, x_lloc, x_bin, x_un, o_add, o_sub, o_mul, o_and, o_or, o_xor, o_shl, o_shr, o_ushr, o_max, o_min, o_i2b, o_i2c, o_i2l, o_l2i, x_fld, j_fget, x_idx, j_aget, x_len, j_alen, x_ofb, x_ite, xs_nil, xs_cons, x_callv, x_calls, s_callv, s_calls, j_recv, j_ret, j_retv, b_cmp, b_and, b_or, b_not, b_ofi, b_ite, b_true, s_skip, s_set, j_ty, j_lset, j_kill, s_inc, s_fput, j_fput, s_fop, s_aput, j_aput, j_nar, s_aop, s_ret, s_retv, s_go, s_pop, x_linc, x_finc, Value.category, if_icmp.holds, List.flatMap_cons, List.flatMap_nil, List.length_cons, List.length_append, List.length_nil, List.set_cons_succ, List.set_cons_zero, List.getElem?_cons_succ, List.getElem?_cons_zero, List.replicate, ite_and', ite_or', ite_int', nI_leI, nI_ltI, nI_eq, nI_add, nI_1, pk_mul, nI_clamp, n_in', nI_pos', nI_pos, n_m1e, n_01, n_10, sT_1, sR_1_0, sR_1_1, sR_1_2, sR_1_3, sR_1_4, sR_1_5, sR_1_6, sR_1_7, sR_1_8, sR_1_9, sT_2, sT_3, sT_4, sT_5, sT_6, sT_7, sT_8, sT_9, sT_10, sT_11, sT_12, sT_13, sT_14, sR_2_1, sR_2_2, sR_2_3, sR_2_4, sR_2_5, sR_2_6, sR_2_7, sR_2_8, sR_2_9, sR_2_10, sR_2_11, sR_2_12, sT_15, sT_16, sT_17, sT_18, sT_19, sT_20, sT_21, sT_22, sT_23, sR_15_1, sR_15_2, sR_15_3, sR_15_4, sR_15_5, sR_15_6, sR_15_7, sR_15_8, sT_24, sT_25, sT_26, sT_27, sT_28, sT_29, sR_24_1, sR_24_2, sR_24_3, sR_24_4, sR_24_5, sT_71, sT_72, sR_71_0, sR_71_1, sR_71_2, sR_71_3, sR_71_4, sT_73, sT_74, sT_75, sR_73_0, sR_73_1, sR_73_2, sR_73_3, sR_73_4, sR_73_5, sT_84, sT_85, sT_86, sT_87, sR_84_0, sR_84_1, sR_84_2, sR_84_3, sR_84_4, sR_84_5, sT_88, sT_89, sR_88_0, sT_90, sT_91, sR_90_0, er, c25, c26, s1, s2, n_or, nI_0, hL]
  | some r =>
    rw [hk, oI_s] at er
    simp only [Option.getD_some]
    have hr8 := sRkc_lt w hk
    have hl8 := (w.2.2.2.2.1.2.2.2 c).2.1
    have hrl : r ≤ (aPl A c).length := by
      unfold sRkc at hk
      split at hk
      · cases hk; exact Nat.le_refl _
      · exact Nat.le_of_lt (fst1_lt hk)
    have step : ∀ k, k < r → lstp 1 2 lc_Ma_breakingPair_1 lb_Ma_breakingPair_1 lu_Ma_breakingPair_1 ([.ref 71, .int (nI c), .int (nI S), .int (nI (slM A S)), .int (nI r), .int (nI (slP A (aC1 A c) ||| slP A (aC2 A c))), .int (nI k)], h) = some (if sPTk (aMv A mv) (sLes A S c) (prM ((aPl A c).getD k (none, none))) = true then .inr (.inr (some (.int (nI k))), ([.ref 71, .int (nI c), .int (nI S), .int (nI (slM A S)), .int (nI r), .int (nI (slP A (aC1 A c) ||| slP A (aC2 A c))), .int (nI k)], h)) else .inl ([.ref 71, .int (nI c), .int (nI S), .int (nI (slM A S)), .int (nI r), .int (nI (slP A (aC1 A c) ||| slP A (aC2 A c))), .int (nI (k + 1))], h)) := by
      intro k hkr
      have c29 := ((cc.2.2 c (by omega)).2 k (by omega)).2
      have et := e_Ma_isPairTaken x (prM ((aPl A c).getD k (none, none))) (sLes A S c)
      generalize sPTk (aMv A mv) (sLes A S c) (prM ((aPl A c).getD k (none, none))) = t at *
      generalize slM A (prM ((aPl A c).getD k (none, none))) = X at *
      generalize slP A (aC1 A c) ||| slP A (aC2 A c) = B2 at *
      have e8 : c * 8 + k = 8 * c + k := by omega
      have h10 : ((1 : Int32) = 0) = False := by decide
      cases t with
      | true => simp (disch := first | assumption | omega) [lstp, lc_Ma_breakingPair_1, lb_Ma_breakingPair_1, lu_Ma_breakingPair_1, j_meth, j_out, j_rok, j_pad, lg_sl, s_seq_w, isN_inl, isN_inr, s_if, jb, x_c, x_iloc, x_aloc, x_lloc, x_bin, x_un, o_add, o_sub, o_mul, o_and, o_or, o_xor, o_shl, o_shr, o_ushr, o_max, o_min, o_i2b, o_i2c, o_i2l, o_l2i, x_fld, j_fget, x_idx, j_aget, x_len, j_alen, x_ofb, x_ite, xs_nil, xs_cons, x_callv, x_calls, s_callv, s_calls, j_recv, j_ret, j_retv, b_cmp, b_and, b_or, b_not, b_ofi, b_ite, b_true, s_skip, s_set, j_ty, j_lset, j_kill, s_inc, s_fput, j_fput, s_fop, s_aput, j_aput, j_nar, s_aop, s_ret, s_retv, s_go, s_pop, x_linc, x_finc, Value.category, if_icmp.holds, List.flatMap_cons, List.flatMap_nil, List.length_cons, List.length_append, List.length_nil, List.set_cons_succ, List.set_cons_zero, List.getElem?_cons_succ, List.getElem?_cons_zero, List.replicate, ite_and', ite_or', ite_int', nI_leI, nI_ltI, nI_eq, nI_add, nI_1, pk_mul, nI_clamp, n_in', nI_pos', nI_pos, n_m1e, n_01, n_10, sT_1, sR_1_0, sR_1_1, sR_1_2, sR_1_3, sR_1_4, sR_1_5, sR_1_6, sR_1_7, sR_1_8, sR_1_9, sT_2, sT_3, sT_4, sT_5, sT_6, sT_7, sT_8, sT_9, sT_10, sT_11, sT_12, sT_13, sT_14, sR_2_1, sR_2_2, sR_2_3, sR_2_4, sR_2_5, sR_2_6, sR_2_7, sR_2_8, sR_2_9, sR_2_10, sR_2_11, sR_2_12, sT_15, sT_16, sT_17, sT_18, sT_19, sT_20, sT_21, sT_22, sT_23, sR_15_1, sR_15_2, sR_15_3, sR_15_4, sR_15_5, sR_15_6, sR_15_7, sR_15_8, sT_24, sT_25, sT_26, sT_27, sT_28, sT_29, sR_24_1, sR_24_2, sR_24_3, sR_24_4, sR_24_5, sT_71, sT_72, sR_71_0, sR_71_1, sR_71_2, sR_71_3, sR_71_4, sT_73, sT_74, sT_75, sR_73_0, sR_73_1, sR_73_2, sR_73_3, sR_73_4, sR_73_5, sT_84, sT_85, sT_86, sT_87, sR_84_0, sR_84_1, sR_84_2, sR_84_3, sR_84_4, sR_84_5, sT_88, sT_89, sR_88_0, sT_90, sT_91, sR_90_0, hkr, e8, c29, hles, et, h10]
      | false => simp (disch := first | assumption | omega) [lstp, lc_Ma_breakingPair_1, lb_Ma_breakingPair_1, lu_Ma_breakingPair_1, j_meth, j_out, j_rok, j_pad, lg_sl, s_seq_w, isN_inl, isN_inr, s_if, jb, x_c, x_iloc, x_aloc, x_lloc, x_bin, x_un, o_add, o_sub, o_mul, o_and, o_or, o_xor, o_shl, o_shr, o_ushr, o_max, o_min, o_i2b, o_i2c, o_i2l, o_l2i, x_fld, j_fget, x_idx, j_aget, x_len, j_alen, x_ofb, x_ite, xs_nil, xs_cons, x_callv, x_calls, s_callv, s_calls, j_recv, j_ret, j_retv, b_cmp, b_and, b_or, b_not, b_ofi, b_ite, b_true, s_skip, s_set, j_ty, j_lset, j_kill, s_inc, s_fput, j_fput, s_fop, s_aput, j_aput, j_nar, s_aop, s_ret, s_retv, s_go, s_pop, x_linc, x_finc, Value.category, if_icmp.holds, List.flatMap_cons, List.flatMap_nil, List.length_cons, List.length_append, List.length_nil, List.set_cons_succ, List.set_cons_zero, List.getElem?_cons_succ, List.getElem?_cons_zero, List.replicate, ite_and', ite_or', ite_int', nI_leI, nI_ltI, nI_eq, nI_add, nI_1, pk_mul, nI_clamp, n_in', nI_pos', nI_pos, n_m1e, n_01, n_10, sT_1, sR_1_0, sR_1_1, sR_1_2, sR_1_3, sR_1_4, sR_1_5, sR_1_6, sR_1_7, sR_1_8, sR_1_9, sT_2, sT_3, sT_4, sT_5, sT_6, sT_7, sT_8, sT_9, sT_10, sT_11, sT_12, sT_13, sT_14, sR_2_1, sR_2_2, sR_2_3, sR_2_4, sR_2_5, sR_2_6, sR_2_7, sR_2_8, sR_2_9, sR_2_10, sR_2_11, sR_2_12, sT_15, sT_16, sT_17, sT_18, sT_19, sT_20, sT_21, sT_22, sT_23, sR_15_1, sR_15_2, sR_15_3, sR_15_4, sR_15_5, sR_15_6, sR_15_7, sR_15_8, sT_24, sT_25, sT_26, sT_27, sT_28, sT_29, sR_24_1, sR_24_2, sR_24_3, sR_24_4, sR_24_5, sT_71, sT_72, sR_71_0, sR_71_1, sR_71_2, sR_71_3, sR_71_4, sT_73, sT_74, sT_75, sR_73_0, sR_73_1, sR_73_2, sR_73_3, sR_73_4, sR_73_5, sT_84, sT_85, sT_86, sT_87, sR_84_0, sR_84_1, sR_84_2, sR_84_3, sR_84_4, sR_84_5, sT_88, sT_89, sR_88_0, sT_90, sT_91, sR_90_0, hkr, e8, c29, hles, et]
    have hL := loop_1s (lb := 1) (lc := 2) (c := lc_Ma_breakingPair_1) (b := lb_Ma_breakingPair_1) (u := lu_Ma_breakingPair_1) r (fun k => (([.ref 71, .int (nI c), .int (nI S), .int (nI (slM A S)), .int (nI r), .int (nI (slP A (aC1 A c) ||| slP A (aC2 A c))), .int (nI k)], h) : jS)) (fun k => sPTk (aMv A mv) (sLes A S c) (prM ((aPl A c).getD k (none, none)))) (fun k => (.inr (some (.int (nI k))), ([.ref 71, .int (nI c), .int (nI S), .int (nI (slM A S)), .int (nI r), .int (nI (slP A (aC1 A c) ||| slP A (aC2 A c))), .int (nI k)], h))) step
      (by simp (disch := first | assumption | omega) [lstp, lc_Ma_breakingPair_1, lb_Ma_breakingPair_1, lu_Ma_breakingPair_1, j_meth, j_out, j_rok, j_pad, lg_sl, s_seq_w, isN_inl, isN_inr, s_if, jb, x_c, x_iloc, x_aloc, x_lloc, x_bin, x_un, o_add, o_sub, o_mul, o_and, o_or, o_xor, o_shl, o_shr, o_ushr, o_max, o_min, o_i2b, o_i2c, o_i2l, o_l2i, x_fld, j_fget, x_idx, j_aget, x_len, j_alen, x_ofb, x_ite, xs_nil, xs_cons, x_callv, x_calls, s_callv, s_calls, j_recv, j_ret, j_retv, b_cmp, b_and, b_or, b_not, b_ofi, b_ite, b_true, s_skip, s_set, j_ty, j_lset, j_kill, s_inc, s_fput, j_fput, s_fop, s_aput, j_aput, j_nar, s_aop, s_ret, s_retv, s_go, s_pop, x_linc, x_finc, Value.category, if_icmp.holds, List.flatMap_cons, List.flatMap_nil, List.length_cons, List.length_append, List.length_nil, List.set_cons_succ, List.set_cons_zero, List.getElem?_cons_succ, List.getElem?_cons_zero, List.replicate, ite_and', ite_or', ite_int', nI_leI, nI_ltI, nI_eq, nI_add, nI_1, pk_mul, nI_clamp, n_in', nI_pos', nI_pos, n_m1e, n_01, n_10, sT_1, sR_1_0, sR_1_1, sR_1_2, sR_1_3, sR_1_4, sR_1_5, sR_1_6, sR_1_7, sR_1_8, sR_1_9, sT_2, sT_3, sT_4, sT_5, sT_6, sT_7, sT_8, sT_9, sT_10, sT_11, sT_12, sT_13, sT_14, sR_2_1, sR_2_2, sR_2_3, sR_2_4, sR_2_5, sR_2_6, sR_2_7, sR_2_8, sR_2_9, sR_2_10, sR_2_11, sR_2_12, sT_15, sT_16, sT_17, sT_18, sT_19, sT_20, sT_21, sT_22, sT_23, sR_15_1, sR_15_2, sR_15_3, sR_15_4, sR_15_5, sR_15_6, sR_15_7, sR_15_8, sT_24, sT_25, sT_26, sT_27, sT_28, sT_29, sR_24_1, sR_24_2, sR_24_3, sR_24_4, sR_24_5, sT_71, sT_72, sR_71_0, sR_71_1, sR_71_2, sR_71_3, sR_71_4, sT_73, sT_74, sT_75, sR_73_0, sR_73_1, sR_73_2, sR_73_3, sR_73_4, sR_73_5, sT_84, sT_85, sT_86, sT_87, sR_84_0, sR_84_1, sR_84_2, sR_84_3, sR_84_4, sR_84_5, sT_88, sT_89, sR_88_0, sT_90, sT_91, sR_90_0])
    have hB : nI (slP A (aC1 A c)) ||| nI (slP A (aC2 A c)) = nI (slP A (aC1 A c) ||| slP A (aC2 A c)) := n_or _ _
    generalize slP A (aC1 A c) ||| slP A (aC2 A c) = B2 at *
    cases hf : fst1 (fun k => sPTk (aMv A mv) (sLes A S c) (prM ((aPl A c).getD k (none, none)))) r with
    | none =>
      rw [hf] at hL
      simp only [nI_0] at hL
      rw [oI_n]
      simp (disch := first | assumption | omega) [f_Ma_breakingPair, body_Ma_breakingPair, j_meth, j_out, j_rok, j_pad, lg_sl, s_seq_w, isN_inl, isN_inr, s_if, jb, x_c, x_iloc, x_aloc, x_lloc, x_bin, x_un, o_add, o_sub, o_mul, o_and, o_or, o_xor, o_shl, o_shr, o_ushr, o_max, o_min, o_i2b, o_i2c, o_i2l, o_l2i, x_fld, j_fget, x_idx, j_aget, x_len, j_alen, x_ofb, x_ite, xs_nil, xs_cons, x_callv, x_calls, s_callv, s_calls, j_recv, j_ret, j_retv, b_cmp, b_and, b_or, b_not, b_ofi, b_ite, b_true, s_skip, s_set, j_ty, j_lset, j_kill, s_inc, s_fput, j_fput, s_fop, s_aput, j_aput, j_nar, s_aop, s_ret, s_retv, s_go, s_pop, x_linc, x_finc, Value.category, if_icmp.holds, List.flatMap_cons, List.flatMap_nil, List.length_cons, List.length_append, List.length_nil, List.set_cons_succ, List.set_cons_zero, List.getElem?_cons_succ, List.getElem?_cons_zero, List.replicate, ite_and', ite_or', ite_int', nI_leI, nI_ltI, nI_eq, nI_add, nI_1, pk_mul, nI_clamp, n_in', nI_pos', nI_pos, n_m1e, n_01, n_10, sT_1, sR_1_0, sR_1_1, sR_1_2, sR_1_3, sR_1_4, sR_1_5, sR_1_6, sR_1_7, sR_1_8, sR_1_9, sT_2, sT_3, sT_4, sT_5, sT_6, sT_7, sT_8, sT_9, sT_10, sT_11, sT_12, sT_13, sT_14, sR_2_1, sR_2_2, sR_2_3, sR_2_4, sR_2_5, sR_2_6, sR_2_7, sR_2_8, sR_2_9, sR_2_10, sR_2_11, sR_2_12, sT_15, sT_16, sT_17, sT_18, sT_19, sT_20, sT_21, sT_22, sT_23, sR_15_1, sR_15_2, sR_15_3, sR_15_4, sR_15_5, sR_15_6, sR_15_7, sR_15_8, sT_24, sT_25, sT_26, sT_27, sT_28, sT_29, sR_24_1, sR_24_2, sR_24_3, sR_24_4, sR_24_5, sT_71, sT_72, sR_71_0, sR_71_1, sR_71_2, sR_71_3, sR_71_4, sT_73, sT_74, sT_75, sR_73_0, sR_73_1, sR_73_2, sR_73_3, sR_73_4, sR_73_5, sT_84, sT_85, sT_86, sT_87, sR_84_0, sR_84_1, sR_84_2, sR_84_3, sR_84_4, sR_84_5, sT_88, sT_89, sR_88_0, sT_90, sT_91, sR_90_0, er, c25, c26, s1, s2, hB, nI_0, hL]
    | some i =>
      rw [hf] at hL
      simp only [nI_0] at hL
      rw [oI_s]
      simp (disch := first | assumption | omega) [f_Ma_breakingPair, body_Ma_breakingPair, j_meth, j_out, j_rok, j_pad, lg_sl, s_seq_w, isN_inl, isN_inr, s_if, jb, x_c, x_iloc, x_aloc, x_lloc, x_bin, x_un, o_add, o_sub, o_mul, o_and, o_or, o_xor, o_shl, o_shr, o_ushr, o_max, o_min, o_i2b, o_i2c, o_i2l, o_l2i, x_fld, j_fget, x_idx, j_aget, x_len, j_alen, x_ofb, x_ite, xs_nil, xs_cons, x_callv, x_calls, s_callv, s_calls, j_recv, j_ret, j_retv, b_cmp, b_and, b_or, b_not, b_ofi, b_ite, b_true, s_skip, s_set, j_ty, j_lset, j_kill, s_inc, s_fput, j_fput, s_fop, s_aput, j_aput, j_nar, s_aop, s_ret, s_retv, s_go, s_pop, x_linc, x_finc, Value.category, if_icmp.holds, List.flatMap_cons, List.flatMap_nil, List.length_cons, List.length_append, List.length_nil, List.set_cons_succ, List.set_cons_zero, List.getElem?_cons_succ, List.getElem?_cons_zero, List.replicate, ite_and', ite_or', ite_int', nI_leI, nI_ltI, nI_eq, nI_add, nI_1, pk_mul, nI_clamp, n_in', nI_pos', nI_pos, n_m1e, n_01, n_10, sT_1, sR_1_0, sR_1_1, sR_1_2, sR_1_3, sR_1_4, sR_1_5, sR_1_6, sR_1_7, sR_1_8, sR_1_9, sT_2, sT_3, sT_4, sT_5, sT_6, sT_7, sT_8, sT_9, sT_10, sT_11, sT_12, sT_13, sT_14, sR_2_1, sR_2_2, sR_2_3, sR_2_4, sR_2_5, sR_2_6, sR_2_7, sR_2_8, sR_2_9, sR_2_10, sR_2_11, sR_2_12, sT_15, sT_16, sT_17, sT_18, sT_19, sT_20, sT_21, sT_22, sT_23, sR_15_1, sR_15_2, sR_15_3, sR_15_4, sR_15_5, sR_15_6, sR_15_7, sR_15_8, sT_24, sT_25, sT_26, sT_27, sT_28, sT_29, sR_24_1, sR_24_2, sR_24_3, sR_24_4, sR_24_5, sT_71, sT_72, sR_71_0, sR_71_1, sR_71_2, sR_71_3, sR_71_4, sT_73, sT_74, sT_75, sR_73_0, sR_73_1, sR_73_2, sR_73_3, sR_73_4, sR_73_5, sT_84, sT_85, sT_86, sT_87, sR_84_0, sR_84_1, sR_84_2, sR_84_3, sR_84_4, sR_84_5, sT_88, sT_89, sR_88_0, sT_90, sT_91, sR_90_0, er, c25, c26, s1, s2, hB, nI_0, hL]
