/-! OFFERS in the reference -/
def oRaw (A : AS) (li : Option (Nat × List Nat)) (p : Nat) : List Nat := match li with
  | some q => if q.1 = p then q.2 else aLl A p
  | none => aLl A p
def oOff (A : AS) (si : Option Nat) (p : Nat) : Bool := si == some p || (sCpl A p).isSome
def oRem (A : AS) (li : Option (Nat × List Nat)) (si mi : Option Nat) (p j : Nat) : List Nat := if oOff A si p then [] else ((oRaw A li p).drop j).filter (fun b => some b != mi)
def LOk (A : AS) (li : Option (Nat × List Nat)) (si mi : Option Nat) : Prop := (∀ q, li = some q → q.1 < 7 ∧ q.2.length ≤ 5 ∧ ∀ b ∈ q.2, b < aNb A ∧ aPe A b = q.1) ∧ (∀ p, si = some p → p < 7) ∧ (∀ b, mi = some b → b < 20)
def ROf (li : Option (Nat × List Nat)) (si mi : Option Nat) (h : jHp) : Prop := hI h 98 57 = oI (li.map Prod.fst) ∧ (∀ q, li = some q → hI h 98 59 = nI q.2.length ∧ ∀ k, k < q.2.length → hI h 136 k = nI (q.2.getD k 0)) ∧ hI h 98 60 = oI si ∧ hI h 98 61 = oI mi
theorem oRaw_ok {A : AS} (w : WF A) {li : Option (Nat × List Nat)} {si mi : Option Nat} (lo : LOk A li si mi) (p : Nat) : (oRaw A li p).length ≤ 5 ∧ ∀ b ∈ oRaw A li p, b < aNb A ∧ aPe A b = p := by
  have h1 := w.2.2.2.1 p
  unfold oRaw
  cases li with
  | none => exact ⟨h1.2.1, h1.2.2.2⟩
  | some q =>
    have := lo.1 q rfl
    simp only
    by_cases e : q.1 = p
    · rw [if_pos e]; subst e; exact ⟨this.2.1, this.2.2⟩
    · rw [if_neg e]; exact ⟨h1.2.1, h1.2.2.2⟩
theorem oRaw_rd {A : AS} {h : jHp} (k : RMK A h) {li : Option (Nat × List Nat)} {si mi : Option Nat} (lo : LOk A li si mi) (ro : ROf li si mi h) {p : Nat} (hp : p < aNp A) : ∃ u : Bool, (nI p = hI h 98 57) = (u = true) ∧ (u = true → hI h 98 59 = nI (oRaw A li p).length ∧ ∀ k, k < (oRaw A li p).length → hI h 136 k = nI ((oRaw A li p).getD k 0)) ∧ (u = false → hI h 106 p = nI (oRaw A li p).length ∧ ∀ k, k < (oRaw A li p).length → hI h 105 (5 * p + k) = nI ((oRaw A li p).getD k 0)) := by
  have hn := k.2.1.1.1
  have rl := k.2.2.2.2.1 p (by omega)
  rw [ro.1]
  cases li with
  | none =>
    refine ⟨false, ?_, fun q => (by cases q), fun _ => ?_⟩
    · have := n_m1e (n := p) (by omega)
      simp [oI, this]
    · exact rl
  | some q =>
    have h7 := (lo.1 q rfl).1
    by_cases e : q.1 = p
    · refine ⟨true, ?_, fun _ => ?_, fun q => by cases q⟩
      · simp [oI, e]
      · have := ro.2.1 q rfl
        simp only [oRaw, if_pos e]
        exact this
    · refine ⟨false, ?_, fun q => (by cases q), fun _ => ?_⟩
      · simp only [Option.map_some, oI, Bool.false_eq_true, eq_iff_iff, iff_false]
        intro z
        exact e ((nI_eq (by omega) (by omega)).mp z).symm
      · simp only [oRaw, if_neg e]
        exact rl
theorem e_M_nextOf {A : AS} {h : jHp} (k : RMK A h) {li : Option (Nat × List Nat)} {si mi : Option Nat} (lo : LOk A li si mi) (ro : ROf li si mi h) {p j : Nat} (hp : p < aNp A) (hj : j ≤ (oRaw A li p).length) (e : hI h 135 p = nI j) :
    ∃ h' j', f_M_nextOf [.ref 98, .int (nI p)] h = some (some (.int (oI (oRem A li si mi p j).head?)), h') ∧ Fr (fun a k => a = 135 ∧ k = p) h h' ∧ hI h' 135 p = nI j' ∧ j' ≤ (oRaw A li p).length ∧ oRem A li si mi p j' = oRem A li si mi p j ∧ (∀ b r, oRem A li si mi p j = b :: r → j' < (oRaw A li p).length ∧ oRem A li si mi p (j' + 1) = r) := by
  have hs := k.1
  have w := k.2.1
  have hn := w.1.1
  have h20 := w.2.2.1.1
  obtain ⟨r1, r2, r3, r4⟩ := ro
  have ec := e_M_coupleOf k (p := p) (by omega)
  have hc31 := sCpl_31 w (p := p)
  obtain ⟨u, u1, u2, u3⟩ := oRaw_rd k lo ⟨r1, r2, r3, r4⟩ hp
  obtain ⟨w1, w2⟩ := oRaw_ok w lo p
  have hsi : (nI p = oI si) = (si = some p) := by
    cases si with
    | none => simp [oI, n_m1e (n := p) (by omega)]
    | some q =>
      have := lo.2.1 q rfl
      simp only [oI, nI_eq (a := p) (b := q) (by omega) (by omega), Option.some.injEq, eq_iff_iff]
      exact eq_comm
  have hmi : ∀ b, b < 20 → (nI b = oI mi) = (mi = some b) := by
    intro b hb
    cases mi with
    | none => simp [oI, n_m1e (n := b) (by omega)]
    | some q =>
      have := lo.2.2 q rfl
      simp only [oI, nI_eq (a := b) (b := q) (by omega) (by omega), Option.some.injEq, eq_iff_iff]
      exact eq_comm
  by_cases hoff : oOff A si p = true
  · refine ⟨h, j, ?_, Fr_refl _ _, e, hj, rfl, ?_⟩
    · simp only [oRem, hoff, if_true, List.head?_nil]
      unfold oOff at hoff
      simp only [Bool.or_eq_true, beq_iff_eq] at hoff
      by_cases hs1 : si = some p
      · simp (disch := first | assumption | omega) [f_M_nextOf, body_M_nextOf, j_meth, j_out, j_rok, j_pad, lg_sl, s_seq_w, isN_inl, isN_inr, s_if, jb, x_c, x_iloc, x_aloc, x_lloc, x_bin, x_un, o_add, o_sub, o_mul, o_and, o_or, o_xor, o_shl, o_shr, o_ushr, o_max, o_min, o_i2b, o_i2c, o_i2l, o_l2i, x_fld, j_fget, x_idx, j_aget, x_len, j_alen, x_ofb, x_ite, xs_nil, xs_cons, x_callv, x_calls, s_callv, s_calls, j_recv, j_ret, j_retv, b_cmp, b_and, b_or, b_not, b_ofi, b_ite, b_true, s_skip, s_set, j_ty, j_lset, j_kill, s_inc, s_fput, j_fput, s_fop, s_aput, j_aput, j_nar, s_aop, s_ret, s_retv, s_go, s_pop, x_linc, x_finc, Value.category, if_icmp.holds, List.flatMap_cons, List.flatMap_nil, List.length_cons, List.length_append, List.length_nil, List.set_cons_succ, List.set_cons_zero, List.getElem?_cons_succ, List.getElem?_cons_zero, List.replicate, ite_and', ite_or', ite_int', nI_leI, nI_ltI, nI_eq, nI_add, nI_1, pk_mul, nI_clamp, n_in', nI_pos', nI_pos, n_m1e, n_01, n_10, sT_98, sT_99, sT_100, sT_101, sT_102, sT_103, sT_104, sT_105, sT_106, sT_107, sT_108, sT_109, sT_110, sT_111, sT_112, sT_113, sT_114, sT_115, sT_116, sT_117, sT_118, sT_119, sT_120, sT_121, sT_122, sT_123, sT_124, sT_125, sT_126, sT_127, sT_128, sT_129, sT_130, sT_131, sT_132, sT_133, sT_134, sT_135, sT_136, sT_137, sT_138, sT_139, sT_140, sR_98_1, sR_98_4, sR_98_5, sR_98_6, sR_98_7, sR_98_8, sR_98_9, sR_98_10, sR_98_12, sR_98_13, sR_98_14, sR_98_15, sR_98_16, sR_98_17, sR_98_18, sR_98_19, sR_98_20, sR_98_21, sR_98_22, sR_98_23, sR_98_24, sR_98_25, sR_98_26, sR_98_27, sR_98_28, sR_98_29, sR_98_31, sR_98_34, sR_98_35, sR_98_36, sR_98_42, sR_98_44, sR_98_45, sR_98_47, sR_98_49, sR_98_51, sR_98_56, sR_98_58, sR_98_62, sR_98_65, sR_98_66, sR_98_69, r3, hsi, hs1, oI_s, oI_n]
      · have hq : (sCpl A p).isSome = true := by simpa [hs1] using hoff
        have hq2 : ¬ oI (sCpl A p) = -1 := fun z => by rw [(oI_m1 hc31).mp z] at hq; cases hq
        simp (disch := first | assumption | omega) [f_M_nextOf, body_M_nextOf, j_meth, j_out, j_rok, j_pad, lg_sl, s_seq_w, isN_inl, isN_inr, s_if, jb, x_c, x_iloc, x_aloc, x_lloc, x_bin, x_un, o_add, o_sub, o_mul, o_and, o_or, o_xor, o_shl, o_shr, o_ushr, o_max, o_min, o_i2b, o_i2c, o_i2l, o_l2i, x_fld, j_fget, x_idx, j_aget, x_len, j_alen, x_ofb, x_ite, xs_nil, xs_cons, x_callv, x_calls, s_callv, s_calls, j_recv, j_ret, j_retv, b_cmp, b_and, b_or, b_not, b_ofi, b_ite, b_true, s_skip, s_set, j_ty, j_lset, j_kill, s_inc, s_fput, j_fput, s_fop, s_aput, j_aput, j_nar, s_aop, s_ret, s_retv, s_go, s_pop, x_linc, x_finc, Value.category, if_icmp.holds, List.flatMap_cons, List.flatMap_nil, List.length_cons, List.length_append, List.length_nil, List.set_cons_succ, List.set_cons_zero, List.getElem?_cons_succ, List.getElem?_cons_zero, List.replicate, ite_and', ite_or', ite_int', nI_leI, nI_ltI, nI_eq, nI_add, nI_1, pk_mul, nI_clamp, n_in', nI_pos', nI_pos, n_m1e, n_01, n_10, sT_98, sT_99, sT_100, sT_101, sT_102, sT_103, sT_104, sT_105, sT_106, sT_107, sT_108, sT_109, sT_110, sT_111, sT_112, sT_113, sT_114, sT_115, sT_116, sT_117, sT_118, sT_119, sT_120, sT_121, sT_122, sT_123, sT_124, sT_125, sT_126, sT_127, sT_128, sT_129, sT_130, sT_131, sT_132, sT_133, sT_134, sT_135, sT_136, sT_137, sT_138, sT_139, sT_140, sR_98_1, sR_98_4, sR_98_5, sR_98_6, sR_98_7, sR_98_8, sR_98_9, sR_98_10, sR_98_12, sR_98_13, sR_98_14, sR_98_15, sR_98_16, sR_98_17, sR_98_18, sR_98_19, sR_98_20, sR_98_21, sR_98_22, sR_98_23, sR_98_24, sR_98_25, sR_98_26, sR_98_27, sR_98_28, sR_98_29, sR_98_31, sR_98_34, sR_98_35, sR_98_36, sR_98_42, sR_98_44, sR_98_45, sR_98_47, sR_98_49, sR_98_51, sR_98_56, sR_98_58, sR_98_62, sR_98_65, sR_98_66, sR_98_69, r3, hsi, hs1, ec, hq2, oI_s, oI_n]
    · intro b r q
      simp [oRem, hoff] at q
  have hof2 : oOff A si p = false := by simpa using hoff
  unfold oOff at hof2
  simp only [Bool.or_eq_false_iff, beq_eq_false_iff_ne, ne_eq, Option.isSome_eq_false_iff, Option.isNone_iff_eq_none] at hof2
  obtain ⟨hs1, hs2⟩ := hof2
  rw [hs2] at ec
  have hrem : ∀ i, oRem A li si mi p i = ((oRaw A li p).drop i).filter (fun b => some b != mi) := fun i => by simp [oRem, hoff]
  simp only [hrem]
  generalize hraw : oRaw A li p = l at *
  have hX := loop_ind (lb := 1) (lc := 2) (c := lc_M_nextOf_1) (b := lb_M_nextOf_1) (u := lu_M_nextOf_1) (fun (t : Nat × jHp × Value) => (([.ref 98, .int (nI p), .int (nI l.length), t.2.2], t.2.1) : jS))
    (fun t => t.1 ≤ l.length ∧ Fr (fun a k => a = 135 ∧ k = p) h t.2.1 ∧ hI t.2.1 135 p = nI t.1 ∧ (l.drop t.1).filter (fun b => some b != mi) = (l.drop j).filter (fun b => some b != mi))
    (fun _ r => ∃ h' j' L, (r = (.inr (some (.int (oI ((l.drop j).filter (fun b => some b != mi)).head?))), (L, h')) ∨ (r = (.inl 0, (L, h')) ∧ ((l.drop j).filter (fun b => some b != mi)).head? = none)) ∧ Fr (fun a k => a = 135 ∧ k = p) h h' ∧ hI h' 135 p = nI j' ∧ j' ≤ l.length ∧ (l.drop j').filter (fun b => some b != mi) = (l.drop j).filter (fun b => some b != mi) ∧ (∀ b r, (l.drop j).filter (fun b => some b != mi) = b :: r → j' < l.length ∧ (l.drop (j' + 1)).filter (fun b => some b != mi) = r))
    (fun t => l.length - t.1) ?_ (j, h, .null) ⟨hj, Fr_refl _ _, e, rfl⟩
  · obtain ⟨r, hl, h', j', L, hr, g1, g2, g3, g4, g5⟩ := hX
    refine ⟨h', j', ?_, g1, g2, g3, g4, g5⟩
    have hlen : f_M_nextOf [.ref 98, .int (nI p)] h = j_out 1 (s_seq (s_loop 1 2 lc_M_nextOf_1 lb_M_nextOf_1 lu_M_nextOf_1) (s_ret (x_c (.int (-1)))) ([.ref 98, .int (nI p), .int (nI l.length), .null], h)) := by
      cases u with
      | true =>
        obtain ⟨v1, v2⟩ := u2 rfl
        simp (disch := first | assumption | omega) [f_M_nextOf, body_M_nextOf, j_meth, j_out, j_rok, j_pad, lg_sl, s_seq_w, isN_inl, isN_inr, s_if, jb, x_c, x_iloc, x_aloc, x_lloc, x_bin, x_un, o_add, o_sub, o_mul, o_and, o_or, o_xor, o_shl, o_shr, o_ushr, o_max, o_min, o_i2b, o_i2c, o_i2l, o_l2i, x_fld, j_fget, x_idx, j_aget, x_len, j_alen, x_ofb, x_ite, xs_nil, xs_cons, x_callv, x_calls, s_callv, s_calls, j_recv, j_ret, j_retv, b_cmp, b_and, b_or, b_not, b_ofi, b_ite, b_true, s_skip, s_set, j_ty, j_lset, j_kill, s_inc, s_fput, j_fput, s_fop, s_aput, j_aput, j_nar, s_aop, s_ret, s_retv, s_go, s_pop, x_linc, x_finc, Value.category, if_icmp.holds, List.flatMap_cons, List.flatMap_nil, List.length_cons, List.length_append, List.length_nil, List.set_cons_succ, List.set_cons_zero, List.getElem?_cons_succ, List.getElem?_cons_zero, List.replicate, ite_and', ite_or', ite_int', nI_leI, nI_ltI, nI_eq, nI_add, nI_1, pk_mul, nI_clamp, n_in', nI_pos', nI_pos, n_m1e, n_01, n_10, sT_98, sT_99, sT_100, sT_101, sT_102, sT_103, sT_104, sT_105, sT_106, sT_107, sT_108, sT_109, sT_110, sT_111, sT_112, sT_113, sT_114, sT_115, sT_116, sT_117, sT_118, sT_119, sT_120, sT_121, sT_122, sT_123, sT_124, sT_125, sT_126, sT_127, sT_128, sT_129, sT_130, sT_131, sT_132, sT_133, sT_134, sT_135, sT_136, sT_137, sT_138, sT_139, sT_140, sR_98_1, sR_98_4, sR_98_5, sR_98_6, sR_98_7, sR_98_8, sR_98_9, sR_98_10, sR_98_12, sR_98_13, sR_98_14, sR_98_15, sR_98_16, sR_98_17, sR_98_18, sR_98_19, sR_98_20, sR_98_21, sR_98_22, sR_98_23, sR_98_24, sR_98_25, sR_98_26, sR_98_27, sR_98_28, sR_98_29, sR_98_31, sR_98_34, sR_98_35, sR_98_36, sR_98_42, sR_98_44, sR_98_45, sR_98_47, sR_98_49, sR_98_51, sR_98_56, sR_98_58, sR_98_62, sR_98_65, sR_98_66, sR_98_69, r3, hsi, hs1, ec, oI_s, oI_n, u1, v1]
      | false =>
        obtain ⟨v1, v2⟩ := u3 rfl
        simp (disch := first | assumption | omega) [f_M_nextOf, body_M_nextOf, j_meth, j_out, j_rok, j_pad, lg_sl, s_seq_w, isN_inl, isN_inr, s_if, jb, x_c, x_iloc, x_aloc, x_lloc, x_bin, x_un, o_add, o_sub, o_mul, o_and, o_or, o_xor, o_shl, o_shr, o_ushr, o_max, o_min, o_i2b, o_i2c, o_i2l, o_l2i, x_fld, j_fget, x_idx, j_aget, x_len, j_alen, x_ofb, x_ite, xs_nil, xs_cons, x_callv, x_calls, s_callv, s_calls, j_recv, j_ret, j_retv, b_cmp, b_and, b_or, b_not, b_ofi, b_ite, b_true, s_skip, s_set, j_ty, j_lset, j_kill, s_inc, s_fput, j_fput, s_fop, s_aput, j_aput, j_nar, s_aop, s_ret, s_retv, s_go, s_pop, x_linc, x_finc, Value.category, if_icmp.holds, List.flatMap_cons, List.flatMap_nil, List.length_cons, List.length_append, List.length_nil, List.set_cons_succ, List.set_cons_zero, List.getElem?_cons_succ, List.getElem?_cons_zero, List.replicate, ite_and', ite_or', ite_int', nI_leI, nI_ltI, nI_eq, nI_add, nI_1, pk_mul, nI_clamp, n_in', nI_pos', nI_pos, n_m1e, n_01, n_10, sT_98, sT_99, sT_100, sT_101, sT_102, sT_103, sT_104, sT_105, sT_106, sT_107, sT_108, sT_109, sT_110, sT_111, sT_112, sT_113, sT_114, sT_115, sT_116, sT_117, sT_118, sT_119, sT_120, sT_121, sT_122, sT_123, sT_124, sT_125, sT_126, sT_127, sT_128, sT_129, sT_130, sT_131, sT_132, sT_133, sT_134, sT_135, sT_136, sT_137, sT_138, sT_139, sT_140, sR_98_1, sR_98_4, sR_98_5, sR_98_6, sR_98_7, sR_98_8, sR_98_9, sR_98_10, sR_98_12, sR_98_13, sR_98_14, sR_98_15, sR_98_16, sR_98_17, sR_98_18, sR_98_19, sR_98_20, sR_98_21, sR_98_22, sR_98_23, sR_98_24, sR_98_25, sR_98_26, sR_98_27, sR_98_28, sR_98_29, sR_98_31, sR_98_34, sR_98_35, sR_98_36, sR_98_42, sR_98_44, sR_98_45, sR_98_47, sR_98_49, sR_98_51, sR_98_56, sR_98_58, sR_98_62, sR_98_65, sR_98_66, sR_98_69, r3, hsi, hs1, ec, oI_s, oI_n, u1, v1]
    rw [hlen]
    rcases hr with rfl | ⟨rfl, hz⟩
    · simp (disch := first | assumption | omega) [j_meth, j_out, j_rok, j_pad, lg_sl, s_seq_w, isN_inl, isN_inr, s_if, jb, x_c, x_iloc, x_aloc, x_lloc, x_bin, x_un, o_add, o_sub, o_mul, o_and, o_or, o_xor, o_shl, o_shr, o_ushr, o_max, o_min, o_i2b, o_i2c, o_i2l, o_l2i, x_fld, j_fget, x_idx, j_aget, x_len, j_alen, x_ofb, x_ite, xs_nil, xs_cons, x_callv, x_calls, s_callv, s_calls, j_recv, j_ret, j_retv, b_cmp, b_and, b_or, b_not, b_ofi, b_ite, b_true, s_skip, s_set, j_ty, j_lset, j_kill, s_inc, s_fput, j_fput, s_fop, s_aput, j_aput, j_nar, s_aop, s_ret, s_retv, s_go, s_pop, x_linc, x_finc, Value.category, if_icmp.holds, List.flatMap_cons, List.flatMap_nil, List.length_cons, List.length_append, List.length_nil, List.set_cons_succ, List.set_cons_zero, List.getElem?_cons_succ, List.getElem?_cons_zero, List.replicate, ite_and', ite_or', ite_int', nI_leI, nI_ltI, nI_eq, nI_add, nI_1, pk_mul, nI_clamp, n_in', nI_pos', nI_pos, n_m1e, n_01, n_10, sT_98, sT_99, sT_100, sT_101, sT_102, sT_103, sT_104, sT_105, sT_106, sT_107, sT_108, sT_109, sT_110, sT_111, sT_112, sT_113, sT_114, sT_115, sT_116, sT_117, sT_118, sT_119, sT_120, sT_121, sT_122, sT_123, sT_124, sT_125, sT_126, sT_127, sT_128, sT_129, sT_130, sT_131, sT_132, sT_133, sT_134, sT_135, sT_136, sT_137, sT_138, sT_139, sT_140, sR_98_1, sR_98_4, sR_98_5, sR_98_6, sR_98_7, sR_98_8, sR_98_9, sR_98_10, sR_98_12, sR_98_13, sR_98_14, sR_98_15, sR_98_16, sR_98_17, sR_98_18, sR_98_19, sR_98_20, sR_98_21, sR_98_22, sR_98_23, sR_98_24, sR_98_25, sR_98_26, sR_98_27, sR_98_28, sR_98_29, sR_98_31, sR_98_34, sR_98_35, sR_98_36, sR_98_42, sR_98_44, sR_98_45, sR_98_47, sR_98_49, sR_98_51, sR_98_56, sR_98_58, sR_98_62, sR_98_65, sR_98_66, sR_98_69, hs, hl]
    · simp (disch := first | assumption | omega) [j_meth, j_out, j_rok, j_pad, lg_sl, s_seq_w, isN_inl, isN_inr, s_if, jb, x_c, x_iloc, x_aloc, x_lloc, x_bin, x_un, o_add, o_sub, o_mul, o_and, o_or, o_xor, o_shl, o_shr, o_ushr, o_max, o_min, o_i2b, o_i2c, o_i2l, o_l2i, x_fld, j_fget, x_idx, j_aget, x_len, j_alen, x_ofb, x_ite, xs_nil, xs_cons, x_callv, x_calls, s_callv, s_calls, j_recv, j_ret, j_retv, b_cmp, b_and, b_or, b_not, b_ofi, b_ite, b_true, s_skip, s_set, j_ty, j_lset, j_kill, s_inc, s_fput, j_fput, s_fop, s_aput, j_aput, j_nar, s_aop, s_ret, s_retv, s_go, s_pop, x_linc, x_finc, Value.category, if_icmp.holds, List.flatMap_cons, List.flatMap_nil, List.length_cons, List.length_append, List.length_nil, List.set_cons_succ, List.set_cons_zero, List.getElem?_cons_succ, List.getElem?_cons_zero, List.replicate, ite_and', ite_or', ite_int', nI_leI, nI_ltI, nI_eq, nI_add, nI_1, pk_mul, nI_clamp, n_in', nI_pos', nI_pos, n_m1e, n_01, n_10, sT_98, sT_99, sT_100, sT_101, sT_102, sT_103, sT_104, sT_105, sT_106, sT_107, sT_108, sT_109, sT_110, sT_111, sT_112, sT_113, sT_114, sT_115, sT_116, sT_117, sT_118, sT_119, sT_120, sT_121, sT_122, sT_123, sT_124, sT_125, sT_126, sT_127, sT_128, sT_129, sT_130, sT_131, sT_132, sT_133, sT_134, sT_135, sT_136, sT_137, sT_138, sT_139, sT_140, sR_98_1, sR_98_4, sR_98_5, sR_98_6, sR_98_7, sR_98_8, sR_98_9, sR_98_10, sR_98_12, sR_98_13, sR_98_14, sR_98_15, sR_98_16, sR_98_17, sR_98_18, sR_98_19, sR_98_20, sR_98_21, sR_98_22, sR_98_23, sR_98_24, sR_98_25, sR_98_26, sR_98_27, sR_98_28, sR_98_29, sR_98_31, sR_98_34, sR_98_35, sR_98_36, sR_98_42, sR_98_44, sR_98_45, sR_98_47, sR_98_49, sR_98_51, sR_98_56, sR_98_58, sR_98_62, sR_98_65, sR_98_66, sR_98_69, hs, hl, hz, oI_s, oI_n]
  · rintro ⟨i, h1, v⟩ ⟨p1, p2, p3, p4⟩
    simp only at p1 p2 p3 p4 ⊢
    have hs' := Fr_shape hs p2
    have a57 : hI h1 98 57 = hI h 98 57 := Fr_I p2 (by simp)
    have a61 : hI h1 98 61 = hI h 98 61 := Fr_I p2 (by simp)
    have a136 : ∀ k, hI h1 136 k = hI h 136 k := fun k => Fr_I p2 (by simp)
    have a105 : ∀ k, hI h1 105 k = hI h 105 k := fun k => Fr_I p2 (by simp)
    by_cases hi : i < l.length
    · have hd : l.drop i = l.getD i 0 :: l.drop (i + 1) := by
        rw [List.drop_eq_getElem_cons hi, List.getD_eq_getElem?_getD, List.getElem?_eq_getElem hi]; rfl
      have hb := (w2 _ (getD_mem' (l := l) (i := i) (d := 0) hi)).1
      have hm1 := hmi (l.getD i 0) (by omega)
      have hrd : (u = true → hI h1 136 i = nI (l.getD i 0)) ∧ (u = false → hI h1 105 (5 * p + i) = nI (l.getD i 0)) := ⟨fun q => by rw [a136]; exact (u2 q).2 i hi, fun q => by rw [a105]; exact (u3 q).2 i hi⟩
      rw [hd] at p4
      by_cases hm : mi = some (l.getD i 0)
      · left
        refine ⟨(i + 1, hSetI h1 135 p (nI (i + 1)), .int (nI (l.getD i 0))), ⟨by simp only; omega, Fr_trans p2 (Fr_set _ ⟨rfl, rfl⟩), by simp only; rw [hI_setI, if_pos ⟨rfl, rfl⟩], ?_⟩, by simp only; omega, ?_, fun r hr => hr⟩
        · simp only
          rw [← p4, List.filter_cons]
          simp [hm]
        · generalize l.getD i 0 = x at *
          cases u with
          | true =>
            have := hrd.1 rfl
            simp (disch := first | assumption | omega) [lstp, lc_M_nextOf_1, lb_M_nextOf_1, lu_M_nextOf_1, j_meth, j_out, j_rok, j_pad, lg_sl, s_seq_w, isN_inl, isN_inr, s_if, jb, x_c, x_iloc, x_aloc, x_lloc, x_bin, x_un, o_add, o_sub, o_mul, o_and, o_or, o_xor, o_shl, o_shr, o_ushr, o_max, o_min, o_i2b, o_i2c, o_i2l, o_l2i, x_fld, j_fget, x_idx, j_aget, x_len, j_alen, x_ofb, x_ite, xs_nil, xs_cons, x_callv, x_calls, s_callv, s_calls, j_recv, j_ret, j_retv, b_cmp, b_and, b_or, b_not, b_ofi, b_ite, b_true, s_skip, s_set, j_ty, j_lset, j_kill, s_inc, s_fput, j_fput, s_fop, s_aput, j_aput, j_nar, s_aop, s_ret, s_retv, s_go, s_pop, x_linc, x_finc, Value.category, if_icmp.holds, List.flatMap_cons, List.flatMap_nil, List.length_cons, List.length_append, List.length_nil, List.set_cons_succ, List.set_cons_zero, List.getElem?_cons_succ, List.getElem?_cons_zero, List.replicate, ite_and', ite_or', ite_int', nI_leI, nI_ltI, nI_eq, nI_add, nI_1, pk_mul, nI_clamp, n_in', nI_pos', nI_pos, n_m1e, n_01, n_10, sT_98, sT_99, sT_100, sT_101, sT_102, sT_103, sT_104, sT_105, sT_106, sT_107, sT_108, sT_109, sT_110, sT_111, sT_112, sT_113, sT_114, sT_115, sT_116, sT_117, sT_118, sT_119, sT_120, sT_121, sT_122, sT_123, sT_124, sT_125, sT_126, sT_127, sT_128, sT_129, sT_130, sT_131, sT_132, sT_133, sT_134, sT_135, sT_136, sT_137, sT_138, sT_139, sT_140, sR_98_1, sR_98_4, sR_98_5, sR_98_6, sR_98_7, sR_98_8, sR_98_9, sR_98_10, sR_98_12, sR_98_13, sR_98_14, sR_98_15, sR_98_16, sR_98_17, sR_98_18, sR_98_19, sR_98_20, sR_98_21, sR_98_22, sR_98_23, sR_98_24, sR_98_25, sR_98_26, sR_98_27, sR_98_28, sR_98_29, sR_98_31, sR_98_34, sR_98_35, sR_98_36, sR_98_42, sR_98_44, sR_98_45, sR_98_47, sR_98_49, sR_98_51, sR_98_56, sR_98_58, sR_98_62, sR_98_65, sR_98_66, sR_98_69, hs', p3, hi, a57, u1, this, a61, r4, hm, oI_s]
          | false =>
            have := hrd.2 rfl
            simp (disch := first | assumption | omega) [lstp, lc_M_nextOf_1, lb_M_nextOf_1, lu_M_nextOf_1, j_meth, j_out, j_rok, j_pad, lg_sl, s_seq_w, isN_inl, isN_inr, s_if, jb, x_c, x_iloc, x_aloc, x_lloc, x_bin, x_un, o_add, o_sub, o_mul, o_and, o_or, o_xor, o_shl, o_shr, o_ushr, o_max, o_min, o_i2b, o_i2c, o_i2l, o_l2i, x_fld, j_fget, x_idx, j_aget, x_len, j_alen, x_ofb, x_ite, xs_nil, xs_cons, x_callv, x_calls, s_callv, s_calls, j_recv, j_ret, j_retv, b_cmp, b_and, b_or, b_not, b_ofi, b_ite, b_true, s_skip, s_set, j_ty, j_lset, j_kill, s_inc, s_fput, j_fput, s_fop, s_aput, j_aput, j_nar, s_aop, s_ret, s_retv, s_go, s_pop, x_linc, x_finc, Value.category, if_icmp.holds, List.flatMap_cons, List.flatMap_nil, List.length_cons, List.length_append, List.length_nil, List.set_cons_succ, List.set_cons_zero, List.getElem?_cons_succ, List.getElem?_cons_zero, List.replicate, ite_and', ite_or', ite_int', nI_leI, nI_ltI, nI_eq, nI_add, nI_1, pk_mul, nI_clamp, n_in', nI_pos', nI_pos, n_m1e, n_01, n_10, sT_98, sT_99, sT_100, sT_101, sT_102, sT_103, sT_104, sT_105, sT_106, sT_107, sT_108, sT_109, sT_110, sT_111, sT_112, sT_113, sT_114, sT_115, sT_116, sT_117, sT_118, sT_119, sT_120, sT_121, sT_122, sT_123, sT_124, sT_125, sT_126, sT_127, sT_128, sT_129, sT_130, sT_131, sT_132, sT_133, sT_134, sT_135, sT_136, sT_137, sT_138, sT_139, sT_140, sR_98_1, sR_98_4, sR_98_5, sR_98_6, sR_98_7, sR_98_8, sR_98_9, sR_98_10, sR_98_12, sR_98_13, sR_98_14, sR_98_15, sR_98_16, sR_98_17, sR_98_18, sR_98_19, sR_98_20, sR_98_21, sR_98_22, sR_98_23, sR_98_24, sR_98_25, sR_98_26, sR_98_27, sR_98_28, sR_98_29, sR_98_31, sR_98_34, sR_98_35, sR_98_36, sR_98_42, sR_98_44, sR_98_45, sR_98_47, sR_98_49, sR_98_51, sR_98_56, sR_98_58, sR_98_62, sR_98_65, sR_98_66, sR_98_69, hs', p3, hi, a57, u1, this, a61, r4, hm, oI_s]
      · right
        have hfl : (l.drop j).filter (fun b => some b != mi) = l.getD i 0 :: (l.drop (i + 1)).filter (fun b => some b != mi) := by
          rw [← p4, List.filter_cons, if_pos]
          simp only [bne_iff_ne, ne_eq]
          exact fun q => hm q.symm
        rw [hfl]
        have hgoal : ∃ L, lstp 1 2 lc_M_nextOf_1 lb_M_nextOf_1 lu_M_nextOf_1 ([.ref 98, .int (nI p), .int (nI l.length), v], h1) = some (.inr (.inr (some (.int (nI (l.getD i 0)))), (L, h1))) := by
          clear hd p4 hfl
          generalize l.getD i 0 = x at *
          refine ⟨[.ref 98, .int (nI p), .int (nI l.length), .int (nI x)], ?_⟩
          cases u with
          | true =>
            have := hrd.1 rfl
            simp (disch := first | assumption | omega) [lstp, lc_M_nextOf_1, lb_M_nextOf_1, lu_M_nextOf_1, j_meth, j_out, j_rok, j_pad, lg_sl, s_seq_w, isN_inl, isN_inr, s_if, jb, x_c, x_iloc, x_aloc, x_lloc, x_bin, x_un, o_add, o_sub, o_mul, o_and, o_or, o_xor, o_shl, o_shr, o_ushr, o_max, o_min, o_i2b, o_i2c, o_i2l, o_l2i, x_fld, j_fget, x_idx, j_aget, x_len, j_alen, x_ofb, x_ite, xs_nil, xs_cons, x_callv, x_calls, s_callv, s_calls, j_recv, j_ret, j_retv, b_cmp, b_and, b_or, b_not, b_ofi, b_ite, b_true, s_skip, s_set, j_ty, j_lset, j_kill, s_inc, s_fput, j_fput, s_fop, s_aput, j_aput, j_nar, s_aop, s_ret, s_retv, s_go, s_pop, x_linc, x_finc, Value.category, if_icmp.holds, List.flatMap_cons, List.flatMap_nil, List.length_cons, List.length_append, List.length_nil, List.set_cons_succ, List.set_cons_zero, List.getElem?_cons_succ, List.getElem?_cons_zero, List.replicate, ite_and', ite_or', ite_int', nI_leI, nI_ltI, nI_eq, nI_add, nI_1, pk_mul, nI_clamp, n_in', nI_pos', nI_pos, n_m1e, n_01, n_10, sT_98, sT_99, sT_100, sT_101, sT_102, sT_103, sT_104, sT_105, sT_106, sT_107, sT_108, sT_109, sT_110, sT_111, sT_112, sT_113, sT_114, sT_115, sT_116, sT_117, sT_118, sT_119, sT_120, sT_121, sT_122, sT_123, sT_124, sT_125, sT_126, sT_127, sT_128, sT_129, sT_130, sT_131, sT_132, sT_133, sT_134, sT_135, sT_136, sT_137, sT_138, sT_139, sT_140, sR_98_1, sR_98_4, sR_98_5, sR_98_6, sR_98_7, sR_98_8, sR_98_9, sR_98_10, sR_98_12, sR_98_13, sR_98_14, sR_98_15, sR_98_16, sR_98_17, sR_98_18, sR_98_19, sR_98_20, sR_98_21, sR_98_22, sR_98_23, sR_98_24, sR_98_25, sR_98_26, sR_98_27, sR_98_28, sR_98_29, sR_98_31, sR_98_34, sR_98_35, sR_98_36, sR_98_42, sR_98_44, sR_98_45, sR_98_47, sR_98_49, sR_98_51, sR_98_56, sR_98_58, sR_98_62, sR_98_65, sR_98_66, sR_98_69, hs', p3, hi, a57, u1, this, a61, r4, hm1, hm]
          | false =>
            have := hrd.2 rfl
            simp (disch := first | assumption | omega) [lstp, lc_M_nextOf_1, lb_M_nextOf_1, lu_M_nextOf_1, j_meth, j_out, j_rok, j_pad, lg_sl, s_seq_w, isN_inl, isN_inr, s_if, jb, x_c, x_iloc, x_aloc, x_lloc, x_bin, x_un, o_add, o_sub, o_mul, o_and, o_or, o_xor, o_shl, o_shr, o_ushr, o_max, o_min, o_i2b, o_i2c, o_i2l, o_l2i, x_fld, j_fget, x_idx, j_aget, x_len, j_alen, x_ofb, x_ite, xs_nil, xs_cons, x_callv, x_calls, s_callv, s_calls, j_recv, j_ret, j_retv, b_cmp, b_and, b_or, b_not, b_ofi, b_ite, b_true, s_skip, s_set, j_ty, j_lset, j_kill, s_inc, s_fput, j_fput, s_fop, s_aput, j_aput, j_nar, s_aop, s_ret, s_retv, s_go, s_pop, x_linc, x_finc, Value.category, if_icmp.holds, List.flatMap_cons, List.flatMap_nil, List.length_cons, List.length_append, List.length_nil, List.set_cons_succ, List.set_cons_zero, List.getElem?_cons_succ, List.getElem?_cons_zero, List.replicate, ite_and', ite_or', ite_int', nI_leI, nI_ltI, nI_eq, nI_add, nI_1, pk_mul, nI_clamp, n_in', nI_pos', nI_pos, n_m1e, n_01, n_10, sT_98, sT_99, sT_100, sT_101, sT_102, sT_103, sT_104, sT_105, sT_106, sT_107, sT_108, sT_109, sT_110, sT_111, sT_112, sT_113, sT_114, sT_115, sT_116, sT_117, sT_118, sT_119, sT_120, sT_121, sT_122, sT_123, sT_124, sT_125, sT_126, sT_127, sT_128, sT_129, sT_130, sT_131, sT_132, sT_133, sT_134, sT_135, sT_136, sT_137, sT_138, sT_139, sT_140, sR_98_1, sR_98_4, sR_98_5, sR_98_6, sR_98_7, sR_98_8, sR_98_9, sR_98_10, sR_98_12, sR_98_13, sR_98_14, sR_98_15, sR_98_16, sR_98_17, sR_98_18, sR_98_19, sR_98_20, sR_98_21, sR_98_22, sR_98_23, sR_98_24, sR_98_25, sR_98_26, sR_98_27, sR_98_28, sR_98_29, sR_98_31, sR_98_34, sR_98_35, sR_98_36, sR_98_42, sR_98_44, sR_98_45, sR_98_47, sR_98_49, sR_98_51, sR_98_56, sR_98_58, sR_98_62, sR_98_65, sR_98_66, sR_98_69, hs', p3, hi, a57, u1, this, a61, r4, hm1, hm]
        obtain ⟨L, hg⟩ := hgoal
        refine ⟨_, hg, h1, i, L, Or.inl rfl, p2, p3, p1, ?_, ?_⟩
        · rw [hd, p4, hfl]
        · intro b r q
          cases q
          exact ⟨hi, rfl⟩
    · right
      have hi' : i = l.length := by omega
      subst hi'
      have hfl : (l.drop j).filter (fun b => some b != mi) = [] := by rw [← p4]; simp
      rw [hfl]
      refine ⟨(.inl 0, ([.ref 98, .int (nI p), .int (nI l.length), v], h1)), ?_, h1, l.length, _, Or.inr ⟨rfl, rfl⟩, p2, p3, Nat.le_refl _, by simp, fun b r q => by cases q⟩
      simp (disch := first | assumption | omega) [lstp, lc_M_nextOf_1, lb_M_nextOf_1, lu_M_nextOf_1, j_meth, j_out, j_rok, j_pad, lg_sl, s_seq_w, isN_inl, isN_inr, s_if, jb, x_c, x_iloc, x_aloc, x_lloc, x_bin, x_un, o_add, o_sub, o_mul, o_and, o_or, o_xor, o_shl, o_shr, o_ushr, o_max, o_min, o_i2b, o_i2c, o_i2l, o_l2i, x_fld, j_fget, x_idx, j_aget, x_len, j_alen, x_ofb, x_ite, xs_nil, xs_cons, x_callv, x_calls, s_callv, s_calls, j_recv, j_ret, j_retv, b_cmp, b_and, b_or, b_not, b_ofi, b_ite, b_true, s_skip, s_set, j_ty, j_lset, j_kill, s_inc, s_fput, j_fput, s_fop, s_aput, j_aput, j_nar, s_aop, s_ret, s_retv, s_go, s_pop, x_linc, x_finc, Value.category, if_icmp.holds, List.flatMap_cons, List.flatMap_nil, List.length_cons, List.length_append, List.length_nil, List.set_cons_succ, List.set_cons_zero, List.getElem?_cons_succ, List.getElem?_cons_zero, List.replicate, ite_and', ite_or', ite_int', nI_leI, nI_ltI, nI_eq, nI_add, nI_1, pk_mul, nI_clamp, n_in', nI_pos', nI_pos, n_m1e, n_01, n_10, sT_98, sT_99, sT_100, sT_101, sT_102, sT_103, sT_104, sT_105, sT_106, sT_107, sT_108, sT_109, sT_110, sT_111, sT_112, sT_113, sT_114, sT_115, sT_116, sT_117, sT_118, sT_119, sT_120, sT_121, sT_122, sT_123, sT_124, sT_125, sT_126, sT_127, sT_128, sT_129, sT_130, sT_131, sT_132, sT_133, sT_134, sT_135, sT_136, sT_137, sT_138, sT_139, sT_140, sR_98_1, sR_98_4, sR_98_5, sR_98_6, sR_98_7, sR_98_8, sR_98_9, sR_98_10, sR_98_12, sR_98_13, sR_98_14, sR_98_15, sR_98_16, sR_98_17, sR_98_18, sR_98_19, sR_98_20, sR_98_21, sR_98_22, sR_98_23, sR_98_24, sR_98_25, sR_98_26, sR_98_27, sR_98_28, sR_98_29, sR_98_31, sR_98_34, sR_98_35, sR_98_36, sR_98_42, sR_98_44, sR_98_45, sR_98_47, sR_98_49, sR_98_51, sR_98_56, sR_98_58, sR_98_62, sR_98_65, sR_98_66, sR_98_69, hs', p3]
