/-! the reference's tables: the ORDER -/
def insP (p : Nat → Bool) : Nat → Nat
  | 0 => 0
  | k + 1 => if p k then insP p k else k + 1
theorem insP_le (p : Nat → Bool) : ∀ n, insP p n ≤ n := by
  intro n
  induction n with
  | zero => exact Nat.le_refl _
  | succ n ih => simp only [insP]; split <;> omega
def insL (p : Nat → Bool) (b : Nat) (l : List Nat) : List Nat := l.take (insP p l.length) ++ b :: l.drop (insP p l.length)
theorem insL_len (p : Nat → Bool) (b : Nat) (l : List Nat) : (insL p b l).length = l.length + 1 := by
  have := insP_le p l.length
  simp only [insL, List.length_append, List.length_take, List.length_cons, List.length_drop]
  omega
theorem insL_get (p : Nat → Bool) (b : Nat) (l : List Nat) (j : Nat) (hj : j ≤ l.length) : (insL p b l).getD j 0 = if j < insP p l.length then l.getD j 0 else if j = insP p l.length then b else l.getD (j - 1) 0 := by
  have := insP_le p l.length
  unfold insL
  rw [List.getD_eq_getElem?_getD]
  by_cases h1 : j < insP p l.length
  · rw [if_pos h1, List.getElem?_append_left (by rw [List.length_take]; omega), List.getElem?_take, if_pos h1, List.getD_eq_getElem?_getD]
  · rw [if_neg h1, List.getElem?_append_right (by rw [List.length_take]; omega), List.length_take]
    by_cases h2 : j = insP p l.length
    · rw [if_pos h2]
      have : j - min (insP p l.length) l.length = 0 := by omega
      rw [this]; rfl
    · rw [if_neg h2]
      have : j - min (insP p l.length) l.length = (j - 1 - insP p l.length) + 1 := by omega
      rw [this, List.getElem?_cons_succ, List.getElem?_drop, List.getD_eq_getElem?_getD]
      congr 2
      omega
theorem insL_mem {p : Nat → Bool} {b : Nat} {l : List Nat} {x : Nat} (h : x ∈ insL p b l) : x = b ∨ x ∈ l := by
  unfold insL at h
  rcases List.mem_append.mp h with h | h
  · exact Or.inr (List.mem_of_mem_take h)
  · rcases List.mem_cons.mp h with h | h
    · exact Or.inl h
    · exact Or.inr (List.mem_of_mem_drop h)
def W126 (f : Nat) (a k : Nat) : Prop := a = 126 ∧ 8 * f ≤ k ∧ k < 8 * f + 8
theorem W126_cM (f : Nat) : ∀ a k, cM a k → ¬ W126 f a k := by
  unfold cM W126
  intro a k h1 h2
  omega
theorem e_mk_ins {A : AS} {h : jHp} (k : RMK A h) {f b : Nat} {l : List Nat} (hf : f < 4) (hb : b < aNb A) (hl : l.length < 8) (hlb : ∀ x ∈ l, x < aNb A) (hc : ∀ j, j < l.length → hI h 126 (8 * f + j) = nI (l.getD j 0)) (m : Int32) :
    ∃ h', s_loop 3 4 lc_M_make1_2 lb_M_make1_2 lu_M_make1_2 ([.ref 98, .int (nI f), .int m, .int (nI b), .int (nI l.length)], h) = some (.inl 0, ([.ref 98, .int (nI f), .int m, .int (nI b), .int (nI (insP (fun i => sAhd A f b (l.getD i 0)) l.length))], h')) ∧ Fr (W126 f) h h' ∧ (∀ j, j < insP (fun i => sAhd A f b (l.getD i 0)) l.length → hI h' 126 (8 * f + j) = nI (l.getD j 0)) ∧ (∀ j, insP (fun i => sAhd A f b (l.getD i 0)) l.length < j → j ≤ l.length → hI h' 126 (8 * f + j) = nI (l.getD (j - 1) 0)) := by
  have h20 := k.2.1.2.2.1.1
  have hw := W126_cM f
  have hX := loop_ind (lb := 3) (lc := 4) (c := lc_M_make1_2) (b := lb_M_make1_2) (u := lu_M_make1_2) (fun (t : Nat × jHp) => (([.ref 98, .int (nI f), .int m, .int (nI b), .int (nI t.1)], t.2) : jS))
    (fun t => t.1 ≤ l.length ∧ insP (fun i => sAhd A f b (l.getD i 0)) l.length = insP (fun i => sAhd A f b (l.getD i 0)) t.1 ∧ Fr (W126 f) h t.2 ∧ (∀ j, j < t.1 → hI t.2 126 (8 * f + j) = nI (l.getD j 0)) ∧ (∀ j, t.1 < j → j ≤ l.length → hI t.2 126 (8 * f + j) = nI (l.getD (j - 1) 0)))
    (fun _ r => ∃ h', r = (.inl 0, ([.ref 98, .int (nI f), .int m, .int (nI b), .int (nI (insP (fun i => sAhd A f b (l.getD i 0)) l.length))], h')) ∧ Fr (W126 f) h h' ∧ (∀ j, j < insP (fun i => sAhd A f b (l.getD i 0)) l.length → hI h' 126 (8 * f + j) = nI (l.getD j 0)) ∧ (∀ j, insP (fun i => sAhd A f b (l.getD i 0)) l.length < j → j ≤ l.length → hI h' 126 (8 * f + j) = nI (l.getD (j - 1) 0)))
    (fun t => t.1) ?_ (l.length, h) ⟨Nat.le_refl _, rfl, Fr_refl _ _, hc, fun j h1 h2 => by simp only at h1; omega⟩
  · obtain ⟨r, h1, h', rfl, h2⟩ := hX
    exact ⟨h', h1, h2⟩
  · rintro ⟨n, h1⟩ ⟨p1, p2, p3, p4, p5⟩
    simp only at p1 p2 p3 p4 p5 ⊢
    have k1 := RMK_fr k p3 hw
    have hs := k1.1
    cases n with
    | zero =>
      right
      refine ⟨_, ?_, h1, rfl, p3, ?_, ?_⟩
      · rw [p2]
        simp (disch := first | assumption | omega) [lstp, lc_M_make1_2, j_meth, j_out, j_rok, j_pad, lg_sl, s_seq, s_if, jb, x_c, x_iloc, x_aloc, x_lloc, x_bin, x_un, o_add, o_sub, o_mul, o_and, o_or, o_xor, o_shl, o_shr, o_ushr, o_max, o_min, o_i2b, o_i2c, o_i2l, o_l2i, x_fld, j_fget, x_idx, j_aget, x_len, j_alen, x_ofb, x_ite, xs_nil, xs_cons, x_callv, x_calls, s_callv, s_calls, j_recv, j_ret, j_retv, b_cmp, b_and, b_or, b_not, b_ofi, b_ite, b_true, s_skip, s_set, j_ty, j_lset, j_kill, s_inc, s_fput, j_fput, s_fop, s_aput, j_aput, j_nar, s_aop, s_ret, s_retv, s_go, s_pop, x_linc, x_finc, Value.category, if_icmp.holds, List.flatMap_cons, List.flatMap_nil, List.length_cons, List.length_append, List.length_nil, List.set_cons_succ, List.set_cons_zero, List.getElem?_cons_succ, List.getElem?_cons_zero, List.replicate, ite_and', ite_or', ite_int', nI_leI, nI_ltI, nI_eq, nI_add, nI_1, pk_mul, nI_clamp, n_in', nI_pos', nI_pos, n_m1e, n_01, n_10, sT_98, sT_99, sT_100, sT_101, sT_102, sT_103, sT_104, sT_105, sT_106, sT_107, sT_108, sT_109, sT_110, sT_111, sT_112, sT_113, sT_114, sT_115, sT_116, sT_117, sT_118, sT_119, sT_120, sT_121, sT_122, sT_123, sT_124, sT_125, sT_126, sT_127, sT_128, sT_129, sT_130, sT_131, sT_132, sT_133, sT_134, sT_135, sT_136, sT_137, sT_138, sT_139, sT_140, sR_98_1, sR_98_4, sR_98_5, sR_98_6, sR_98_7, sR_98_8, sR_98_9, sR_98_10, sR_98_12, sR_98_13, sR_98_14, sR_98_15, sR_98_16, sR_98_17, sR_98_18, sR_98_19, sR_98_20, sR_98_21, sR_98_22, sR_98_23, sR_98_24, sR_98_25, sR_98_26, sR_98_27, sR_98_28, sR_98_29, sR_98_31, sR_98_34, sR_98_35, sR_98_36, sR_98_42, sR_98_44, sR_98_45, sR_98_47, sR_98_49, sR_98_51, sR_98_56, sR_98_58, sR_98_62, sR_98_65, sR_98_66, sR_98_69, hs, nI_0, insP]
      · rw [p2]; intro j hj; simp only [insP] at hj; omega
      · rw [p2]; exact p5
    | succ n =>
      have e := p4 n (by omega)
      have hx := hlb _ (getD_mem' (l := l) (i := n) (d := 0) (by omega))
      have ea := e_M_isAhead k1 hf hb hx
      have h0 : (0 : Int32) < nI (n + 1) := by rw [← nI_0]; exact (nI_ltI (by omega) (by omega)).mpr (by omega)
      have e8 : nI (8 * f + (n + 1)) - nI 1 = nI (8 * f + n) := pk_sub (by omega)
      have e9 : nI (n + 1) + -1 = nI n := by
        have : (-1 : Int32) = - nI 1 := by decide
        rw [this, ← Int32.sub_eq_add_neg]
        exact pk_sub (by omega)
      by_cases hp : sAhd A f b (l.getD n 0) = true
      · left
        refine ⟨(n, hSetI h1 126 (8 * f + (n + 1)) (nI (l.getD n 0))), ⟨by simp only; omega, ?_, Fr_trans p3 (Fr_set _ ⟨rfl, by omega, by omega⟩), ?_, ?_⟩, by simp only; omega, ?_, fun r hr => hr⟩
        · simp only
          rw [p2]
          simp only [insP, hp, if_true]
        · simp only
          intro j hj
          rw [hI_setI, if_neg (by omega)]
          exact p4 j (by omega)
        · simp only
          intro j h2 h3
          rw [hI_setI]
          by_cases hj : j = n + 1
          · subst hj; simp
          · rw [if_neg (by omega)]
            exact p5 j (by omega) h3
        · generalize l.getD n 0 = x at *
          simp (disch := first | assumption | omega) [lstp, lc_M_make1_2, lb_M_make1_2, lu_M_make1_2, j_meth, j_out, j_rok, j_pad, lg_sl, s_seq, s_if, jb, x_c, x_iloc, x_aloc, x_lloc, x_bin, x_un, o_add, o_sub, o_mul, o_and, o_or, o_xor, o_shl, o_shr, o_ushr, o_max, o_min, o_i2b, o_i2c, o_i2l, o_l2i, x_fld, j_fget, x_idx, j_aget, x_len, j_alen, x_ofb, x_ite, xs_nil, xs_cons, x_callv, x_calls, s_callv, s_calls, j_recv, j_ret, j_retv, b_cmp, b_and, b_or, b_not, b_ofi, b_ite, b_true, s_skip, s_set, j_ty, j_lset, j_kill, s_inc, s_fput, j_fput, s_fop, s_aput, j_aput, j_nar, s_aop, s_ret, s_retv, s_go, s_pop, x_linc, x_finc, Value.category, if_icmp.holds, List.flatMap_cons, List.flatMap_nil, List.length_cons, List.length_append, List.length_nil, List.set_cons_succ, List.set_cons_zero, List.getElem?_cons_succ, List.getElem?_cons_zero, List.replicate, ite_and', ite_or', ite_int', nI_leI, nI_ltI, nI_eq, nI_add, nI_1, pk_mul, nI_clamp, n_in', nI_pos', nI_pos, n_m1e, n_01, n_10, sT_98, sT_99, sT_100, sT_101, sT_102, sT_103, sT_104, sT_105, sT_106, sT_107, sT_108, sT_109, sT_110, sT_111, sT_112, sT_113, sT_114, sT_115, sT_116, sT_117, sT_118, sT_119, sT_120, sT_121, sT_122, sT_123, sT_124, sT_125, sT_126, sT_127, sT_128, sT_129, sT_130, sT_131, sT_132, sT_133, sT_134, sT_135, sT_136, sT_137, sT_138, sT_139, sT_140, sR_98_1, sR_98_4, sR_98_5, sR_98_6, sR_98_7, sR_98_8, sR_98_9, sR_98_10, sR_98_12, sR_98_13, sR_98_14, sR_98_15, sR_98_16, sR_98_17, sR_98_18, sR_98_19, sR_98_20, sR_98_21, sR_98_22, sR_98_23, sR_98_24, sR_98_25, sR_98_26, sR_98_27, sR_98_28, sR_98_29, sR_98_31, sR_98_34, sR_98_35, sR_98_36, sR_98_42, sR_98_44, sR_98_45, sR_98_47, sR_98_49, sR_98_51, sR_98_56, sR_98_58, sR_98_62, sR_98_65, sR_98_66, sR_98_69, hs, h0, e8, e9, e, ea, hp]
      · right
        have hpos : insP (fun i => sAhd A f b (l.getD i 0)) l.length = n + 1 := by rw [p2]; simp only [insP, hp]; simp
        rw [hpos]
        refine ⟨_, ?_, h1, rfl, p3, p4, p5⟩
        generalize l.getD n 0 = x at *
        simp (disch := first | assumption | omega) [lstp, lc_M_make1_2, lb_M_make1_2, lu_M_make1_2, j_meth, j_out, j_rok, j_pad, lg_sl, s_seq, s_if, jb, x_c, x_iloc, x_aloc, x_lloc, x_bin, x_un, o_add, o_sub, o_mul, o_and, o_or, o_xor, o_shl, o_shr, o_ushr, o_max, o_min, o_i2b, o_i2c, o_i2l, o_l2i, x_fld, j_fget, x_idx, j_aget, x_len, j_alen, x_ofb, x_ite, xs_nil, xs_cons, x_callv, x_calls, s_callv, s_calls, j_recv, j_ret, j_retv, b_cmp, b_and, b_or, b_not, b_ofi, b_ite, b_true, s_skip, s_set, j_ty, j_lset, j_kill, s_inc, s_fput, j_fput, s_fop, s_aput, j_aput, j_nar, s_aop, s_ret, s_retv, s_go, s_pop, x_linc, x_finc, Value.category, if_icmp.holds, List.flatMap_cons, List.flatMap_nil, List.length_cons, List.length_append, List.length_nil, List.set_cons_succ, List.set_cons_zero, List.getElem?_cons_succ, List.getElem?_cons_zero, List.replicate, ite_and', ite_or', ite_int', nI_leI, nI_ltI, nI_eq, nI_add, nI_1, pk_mul, nI_clamp, n_in', nI_pos', nI_pos, n_m1e, n_01, n_10, sT_98, sT_99, sT_100, sT_101, sT_102, sT_103, sT_104, sT_105, sT_106, sT_107, sT_108, sT_109, sT_110, sT_111, sT_112, sT_113, sT_114, sT_115, sT_116, sT_117, sT_118, sT_119, sT_120, sT_121, sT_122, sT_123, sT_124, sT_125, sT_126, sT_127, sT_128, sT_129, sT_130, sT_131, sT_132, sT_133, sT_134, sT_135, sT_136, sT_137, sT_138, sT_139, sT_140, sR_98_1, sR_98_4, sR_98_5, sR_98_6, sR_98_7, sR_98_8, sR_98_9, sR_98_10, sR_98_12, sR_98_13, sR_98_14, sR_98_15, sR_98_16, sR_98_17, sR_98_18, sR_98_19, sR_98_20, sR_98_21, sR_98_22, sR_98_23, sR_98_24, sR_98_25, sR_98_26, sR_98_27, sR_98_28, sR_98_29, sR_98_31, sR_98_34, sR_98_35, sR_98_36, sR_98_42, sR_98_44, sR_98_45, sR_98_47, sR_98_49, sR_98_51, sR_98_56, sR_98_58, sR_98_62, sR_98_65, sR_98_66, sR_98_69, hs, h0, e8, e, ea, hp]
