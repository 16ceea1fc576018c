/-! the ORDER -/
def sAhL (A : AS) (a b : Nat) : List (Nat × Bool) → Bool
  | [] => decide (a < b)
  | k :: r => if sVal A a k.1 = sVal A b k.1 then sAhL A a b r else (decide (sVal A b k.1 < sVal A a k.1) == k.2)
def aKs (A : AS) (f : Nat) : List (Nat × Bool) := match aCh A f with
  | none => []
  | some C => cKeys C
def sAhd (A : AS) (f a b : Nat) : Bool := sAhL A a b (aKs A f)
theorem aKs_ok {A : AS} (w : WF A) (f : Nat) : (aKs A f).length ≤ 5 ∧ ∀ k ∈ aKs A f, k.1 < 5 := by
  unfold aKs
  cases h : aCh A f with
  | none => simp
  | some C =>
    have := (w.2.2.2.2.2.1 f).2 C h
    exact ⟨this.2.2.1, this.2.2.2.1⟩
theorem aKs_mem {A : AS} {h : jHp} (r : RMch A h) {f : Nat} (hf : f < 4) : hI h 116 f = nI (aKs A f).length ∧ ∀ k, k < (aKs A f).length → hI h 115 (5 * f + k) = kI ((aKs A f).getD k (0, true)) := by
  have := r f hf
  unfold aKs
  cases e : aCh A f with
  | none => rw [e] at this; simp only at this; exact ⟨this.2.1, fun k hk => by simp at hk⟩
  | some C => rw [e] at this; exact this.2.2.2.1
theorem kI_lt {c : Nat} {up : Bool} (hc : c < 5) : (kI (c, up) < nI 5) = (up = true) := by
  have : ∀ c, c < 5 → ∀ up : Bool, (kI (c, up) < nI 5) = (up = true) := by decide
  exact this c hc up
theorem n_sub0 {a b : Nat} (ha : a ≤ 99) (hb : b ≤ 99) : (nI a - nI b = 0) = (a = b) ∧ (0 < nI a - nI b) = (b < a) := by
  have : ∀ a, a < 100 → ∀ b, b < 100 → (nI a - nI b = 0) = (a = b) ∧ (0 < nI a - nI b) = (b < a) := by decide +kernel
  exact this a (by omega) b (by omega)
theorem e_M_isAhead {A : AS} {h : jHp} (k : RMK A h) {f a b : Nat} (hf : f < 4) (ha : a < aNb A) (hb : b < aNb A) : f_M_isAhead [.ref 98, .int (nI f), .int (nI a), .int (nI b)] h = some (some (.int (if sAhd A f a b then 1 else 0)), h) := by
  have hs := k.1
  have w := k.2.1
  have h20 := w.2.2.1.1
  obtain ⟨q1, q2⟩ := aKs_mem k.2.2.2.2.2.2 hf
  obtain ⟨hl, hk5⟩ := aKs_ok w f
  unfold sAhd
  generalize aKs A f = l at *
  have hL := loop_wp (lb := 1) (lc := 2) (c := lc_M_isAhead_1) (b := lb_M_isAhead_1) (u := lu_M_isAhead_1) l.length
    (fun i st => ∃ x y, st = ([.ref 98, .int (nI f), .int (nI a), .int (nI b), .int (nI i), x, y], h) ∧ sAhL A a b l = sAhL A a b (l.drop i))
    (fun r => ∃ L, r = (.inr (some (.int (if sAhL A a b l then 1 else 0))), (L, h)) ∨ (r = (.inl 0, ([.ref 98, .int (nI f), .int (nI a), .int (nI b)] ++ L, h)) ∧ sAhL A a b l = decide (a < b)))
    ?_ ?_ ([.ref 98, .int (nI f), .int (nI a), .int (nI b), .int (nI 0), .null, .null], h) ⟨_, _, rfl, rfl⟩
  · obtain ⟨r, h1, L, rfl | ⟨rfl, h3⟩⟩ := hL
    · by_cases hz : sAhL A a b l = true <;> simp (disch := first | assumption | omega) [f_M_isAhead, body_M_isAhead, j_meth, j_out, j_rok, j_pad, lg_sl, s_seq, s_if, jb, x_c, x_iloc, x_aloc, x_lloc, x_bin, x_un, o_add, o_sub, o_mul, o_and, o_or, o_xor, o_shl, o_shr, o_ushr, o_max, o_min, o_i2b, o_i2c, o_i2l, o_l2i, x_fld, j_fget, x_idx, j_aget, x_len, j_alen, x_ofb, x_ite, xs_nil, xs_cons, x_callv, x_calls, s_callv, s_calls, j_recv, j_ret, j_retv, b_cmp, b_and, b_or, b_not, b_ofi, b_ite, b_true, s_skip, s_set, j_ty, j_lset, j_kill, s_inc, s_fput, j_fput, s_fop, s_aput, j_aput, j_nar, s_aop, s_ret, s_retv, s_go, s_pop, x_linc, x_finc, Value.category, if_icmp.holds, List.flatMap_cons, List.flatMap_nil, List.length_cons, List.length_append, List.length_nil, List.set_cons_succ, List.set_cons_zero, List.getElem?_cons_succ, List.getElem?_cons_zero, List.replicate, ite_and', ite_or', ite_int', nI_leI, nI_ltI, nI_eq, nI_add, nI_1, pk_mul, nI_clamp, n_in', nI_pos', nI_pos, n_m1e, n_01, n_10, sT_98, sT_99, sT_100, sT_101, sT_102, sT_103, sT_104, sT_105, sT_106, sT_107, sT_108, sT_109, sT_110, sT_111, sT_112, sT_113, sT_114, sT_115, sT_116, sT_117, sT_118, sT_119, sT_120, sT_121, sT_122, sT_123, sT_124, sT_125, sT_126, sT_127, sT_128, sT_129, sT_130, sT_131, sT_132, sT_133, sT_134, sT_135, sT_136, sT_137, sT_138, sT_139, sT_140, sR_98_1, sR_98_4, sR_98_5, sR_98_6, sR_98_7, sR_98_8, sR_98_9, sR_98_10, sR_98_12, sR_98_13, sR_98_14, sR_98_15, sR_98_16, sR_98_17, sR_98_18, sR_98_19, sR_98_20, sR_98_21, sR_98_22, sR_98_23, sR_98_24, sR_98_25, sR_98_26, sR_98_27, sR_98_28, sR_98_29, sR_98_31, sR_98_34, sR_98_35, sR_98_36, sR_98_42, sR_98_44, sR_98_45, sR_98_47, sR_98_49, sR_98_51, sR_98_56, sR_98_58, sR_98_62, sR_98_65, sR_98_66, sR_98_69, hs, h1, hz]
    · rw [h3]
      by_cases hz : a < b <;> simp (disch := first | assumption | omega) [f_M_isAhead, body_M_isAhead, j_meth, j_out, j_rok, j_pad, lg_sl, s_seq, s_if, jb, x_c, x_iloc, x_aloc, x_lloc, x_bin, x_un, o_add, o_sub, o_mul, o_and, o_or, o_xor, o_shl, o_shr, o_ushr, o_max, o_min, o_i2b, o_i2c, o_i2l, o_l2i, x_fld, j_fget, x_idx, j_aget, x_len, j_alen, x_ofb, x_ite, xs_nil, xs_cons, x_callv, x_calls, s_callv, s_calls, j_recv, j_ret, j_retv, b_cmp, b_and, b_or, b_not, b_ofi, b_ite, b_true, s_skip, s_set, j_ty, j_lset, j_kill, s_inc, s_fput, j_fput, s_fop, s_aput, j_aput, j_nar, s_aop, s_ret, s_retv, s_go, s_pop, x_linc, x_finc, Value.category, if_icmp.holds, List.flatMap_cons, List.flatMap_nil, List.length_cons, List.length_append, List.length_nil, List.set_cons_succ, List.set_cons_zero, List.getElem?_cons_succ, List.getElem?_cons_zero, List.replicate, ite_and', ite_or', ite_int', nI_leI, nI_ltI, nI_eq, nI_add, nI_1, pk_mul, nI_clamp, n_in', nI_pos', nI_pos, n_m1e, n_01, n_10, sT_98, sT_99, sT_100, sT_101, sT_102, sT_103, sT_104, sT_105, sT_106, sT_107, sT_108, sT_109, sT_110, sT_111, sT_112, sT_113, sT_114, sT_115, sT_116, sT_117, sT_118, sT_119, sT_120, sT_121, sT_122, sT_123, sT_124, sT_125, sT_126, sT_127, sT_128, sT_129, sT_130, sT_131, sT_132, sT_133, sT_134, sT_135, sT_136, sT_137, sT_138, sT_139, sT_140, sR_98_1, sR_98_4, sR_98_5, sR_98_6, sR_98_7, sR_98_8, sR_98_9, sR_98_10, sR_98_12, sR_98_13, sR_98_14, sR_98_15, sR_98_16, sR_98_17, sR_98_18, sR_98_19, sR_98_20, sR_98_21, sR_98_22, sR_98_23, sR_98_24, sR_98_25, sR_98_26, sR_98_27, sR_98_28, sR_98_29, sR_98_31, sR_98_34, sR_98_35, sR_98_36, sR_98_42, sR_98_44, sR_98_45, sR_98_47, sR_98_49, sR_98_51, sR_98_56, sR_98_58, sR_98_62, sR_98_65, sR_98_66, sR_98_69, hs, h1, hz]
  · rintro i st hi ⟨x, y, rfl, hI⟩
    have e := q2 i hi
    have h5 := hk5 _ (getD_mem' (d := (0, true)) hi)
    have hd : l.drop i = l.getD i (0, true) :: l.drop (i + 1) := by
      rw [List.drop_eq_getElem_cons hi, List.getD_eq_getElem?_getD, List.getElem?_eq_getElem hi]; rfl
    rw [hd, sAhL] at hI
    generalize l.getD i (0, true) = z at *
    obtain ⟨c, up⟩ := z
    have v1 := e_M_valueOf k ha (c := c) (up := up) h5
    have v2 := e_M_valueOf k hb (c := c) (up := up) h5
    obtain ⟨s1, s2⟩ := n_sub0 (sVal_le w ha c) (sVal_le w hb c)
    have hlt := kI_lt (up := up) h5
    by_cases hq : sVal A a c = sVal A b c
    · left
      refine ⟨([.ref 98, .int (nI f), .int (nI a), .int (nI b), .int (nI (i + 1)), .int (kI (c, up)), .int 0], h), ?_, _, _, rfl, by rw [hI, if_pos hq]⟩
      simp (disch := first | assumption | omega) [lstp, lc_M_isAhead_1, lb_M_isAhead_1, lu_M_isAhead_1, j_meth, j_out, j_rok, j_pad, lg_sl, s_seq, s_if, jb, x_c, x_iloc, x_aloc, x_lloc, x_bin, x_un, o_add, o_sub, o_mul, o_and, o_or, o_xor, o_shl, o_shr, o_ushr, o_max, o_min, o_i2b, o_i2c, o_i2l, o_l2i, x_fld, j_fget, x_idx, j_aget, x_len, j_alen, x_ofb, x_ite, xs_nil, xs_cons, x_callv, x_calls, s_callv, s_calls, j_recv, j_ret, j_retv, b_cmp, b_and, b_or, b_not, b_ofi, b_ite, b_true, s_skip, s_set, j_ty, j_lset, j_kill, s_inc, s_fput, j_fput, s_fop, s_aput, j_aput, j_nar, s_aop, s_ret, s_retv, s_go, s_pop, x_linc, x_finc, Value.category, if_icmp.holds, List.flatMap_cons, List.flatMap_nil, List.length_cons, List.length_append, List.length_nil, List.set_cons_succ, List.set_cons_zero, List.getElem?_cons_succ, List.getElem?_cons_zero, List.replicate, ite_and', ite_or', ite_int', nI_leI, nI_ltI, nI_eq, nI_add, nI_1, pk_mul, nI_clamp, n_in', nI_pos', nI_pos, n_m1e, n_01, n_10, sT_98, sT_99, sT_100, sT_101, sT_102, sT_103, sT_104, sT_105, sT_106, sT_107, sT_108, sT_109, sT_110, sT_111, sT_112, sT_113, sT_114, sT_115, sT_116, sT_117, sT_118, sT_119, sT_120, sT_121, sT_122, sT_123, sT_124, sT_125, sT_126, sT_127, sT_128, sT_129, sT_130, sT_131, sT_132, sT_133, sT_134, sT_135, sT_136, sT_137, sT_138, sT_139, sT_140, sR_98_1, sR_98_4, sR_98_5, sR_98_6, sR_98_7, sR_98_8, sR_98_9, sR_98_10, sR_98_12, sR_98_13, sR_98_14, sR_98_15, sR_98_16, sR_98_17, sR_98_18, sR_98_19, sR_98_20, sR_98_21, sR_98_22, sR_98_23, sR_98_24, sR_98_25, sR_98_26, sR_98_27, sR_98_28, sR_98_29, sR_98_31, sR_98_34, sR_98_35, sR_98_36, sR_98_42, sR_98_44, sR_98_45, sR_98_47, sR_98_49, sR_98_51, sR_98_56, sR_98_58, sR_98_62, sR_98_65, sR_98_66, sR_98_69, hs, q1, hi, e, v1, v2, hq]
    · right
      rw [if_neg hq] at hI
      refine ⟨(.inr (some (.int (if sAhL A a b l then 1 else 0))), ([.ref 98, .int (nI f), .int (nI a), .int (nI b), .int (nI i), .int (kI (c, up)), .int (nI (sVal A a c) - nI (sVal A b c))], h)), ?_, _, Or.inl rfl⟩
      rw [hI]
      cases up <;> by_cases hq2 : sVal A b c < sVal A a c <;> simp (disch := first | assumption | omega) [lstp, lc_M_isAhead_1, lb_M_isAhead_1, j_meth, j_out, j_rok, j_pad, lg_sl, s_seq, s_if, jb, x_c, x_iloc, x_aloc, x_lloc, x_bin, x_un, o_add, o_sub, o_mul, o_and, o_or, o_xor, o_shl, o_shr, o_ushr, o_max, o_min, o_i2b, o_i2c, o_i2l, o_l2i, x_fld, j_fget, x_idx, j_aget, x_len, j_alen, x_ofb, x_ite, xs_nil, xs_cons, x_callv, x_calls, s_callv, s_calls, j_recv, j_ret, j_retv, b_cmp, b_and, b_or, b_not, b_ofi, b_ite, b_true, s_skip, s_set, j_ty, j_lset, j_kill, s_inc, s_fput, j_fput, s_fop, s_aput, j_aput, j_nar, s_aop, s_ret, s_retv, s_go, s_pop, x_linc, x_finc, Value.category, if_icmp.holds, List.flatMap_cons, List.flatMap_nil, List.length_cons, List.length_append, List.length_nil, List.set_cons_succ, List.set_cons_zero, List.getElem?_cons_succ, List.getElem?_cons_zero, List.replicate, ite_and', ite_or', ite_int', nI_leI, nI_ltI, nI_eq, nI_add, nI_1, pk_mul, nI_clamp, n_in', nI_pos', nI_pos, n_m1e, n_01, n_10, sT_98, sT_99, sT_100, sT_101, sT_102, sT_103, sT_104, sT_105, sT_106, sT_107, sT_108, sT_109, sT_110, sT_111, sT_112, sT_113, sT_114, sT_115, sT_116, sT_117, sT_118, sT_119, sT_120, sT_121, sT_122, sT_123, sT_124, sT_125, sT_126, sT_127, sT_128, sT_129, sT_130, sT_131, sT_132, sT_133, sT_134, sT_135, sT_136, sT_137, sT_138, sT_139, sT_140, sR_98_1, sR_98_4, sR_98_5, sR_98_6, sR_98_7, sR_98_8, sR_98_9, sR_98_10, sR_98_12, sR_98_13, sR_98_14, sR_98_15, sR_98_16, sR_98_17, sR_98_18, sR_98_19, sR_98_20, sR_98_21, sR_98_22, sR_98_23, sR_98_24, sR_98_25, sR_98_26, sR_98_27, sR_98_28, sR_98_29, sR_98_31, sR_98_34, sR_98_35, sR_98_36, sR_98_42, sR_98_44, sR_98_45, sR_98_47, sR_98_49, sR_98_51, sR_98_56, sR_98_58, sR_98_62, sR_98_65, sR_98_66, sR_98_69, hs, q1, hi, e, v1, v2, hq, s1, s2, hlt, hq2]
  · rintro st ⟨x, y, rfl, hI⟩
    refine ⟨(.inl 0, ([.ref 98, .int (nI f), .int (nI a), .int (nI b), .int (nI l.length), x, y], h)), by simp (disch := first | assumption | omega) [lstp, lc_M_isAhead_1, j_meth, j_out, j_rok, j_pad, lg_sl, s_seq, s_if, jb, x_c, x_iloc, x_aloc, x_lloc, x_bin, x_un, o_add, o_sub, o_mul, o_and, o_or, o_xor, o_shl, o_shr, o_ushr, o_max, o_min, o_i2b, o_i2c, o_i2l, o_l2i, x_fld, j_fget, x_idx, j_aget, x_len, j_alen, x_ofb, x_ite, xs_nil, xs_cons, x_callv, x_calls, s_callv, s_calls, j_recv, j_ret, j_retv, b_cmp, b_and, b_or, b_not, b_ofi, b_ite, b_true, s_skip, s_set, j_ty, j_lset, j_kill, s_inc, s_fput, j_fput, s_fop, s_aput, j_aput, j_nar, s_aop, s_ret, s_retv, s_go, s_pop, x_linc, x_finc, Value.category, if_icmp.holds, List.flatMap_cons, List.flatMap_nil, List.length_cons, List.length_append, List.length_nil, List.set_cons_succ, List.set_cons_zero, List.getElem?_cons_succ, List.getElem?_cons_zero, List.replicate, ite_and', ite_or', ite_int', nI_leI, nI_ltI, nI_eq, nI_add, nI_1, pk_mul, nI_clamp, n_in', nI_pos', nI_pos, n_m1e, n_01, n_10, sT_98, sT_99, sT_100, sT_101, sT_102, sT_103, sT_104, sT_105, sT_106, sT_107, sT_108, sT_109, sT_110, sT_111, sT_112, sT_113, sT_114, sT_115, sT_116, sT_117, sT_118, sT_119, sT_120, sT_121, sT_122, sT_123, sT_124, sT_125, sT_126, sT_127, sT_128, sT_129, sT_130, sT_131, sT_132, sT_133, sT_134, sT_135, sT_136, sT_137, sT_138, sT_139, sT_140, sR_98_1, sR_98_4, sR_98_5, sR_98_6, sR_98_7, sR_98_8, sR_98_9, sR_98_10, sR_98_12, sR_98_13, sR_98_14, sR_98_15, sR_98_16, sR_98_17, sR_98_18, sR_98_19, sR_98_20, sR_98_21, sR_98_22, sR_98_23, sR_98_24, sR_98_25, sR_98_26, sR_98_27, sR_98_28, sR_98_29, sR_98_31, sR_98_34, sR_98_35, sR_98_36, sR_98_42, sR_98_44, sR_98_45, sR_98_47, sR_98_49, sR_98_51, sR_98_56, sR_98_58, sR_98_62, sR_98_65, sR_98_66, sR_98_69, hs, q1], [.int (nI l.length), x, y], Or.inr ⟨rfl, ?_⟩⟩
    rw [hI, List.drop_length]
    rfl
