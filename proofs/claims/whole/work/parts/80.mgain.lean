theorem RLi_fr {l : List Nat} {W : Nat → Nat → Prop} {h h' : jHp} (r : RLi l h) (f : Fr W h h') (hW : ∀ a k, W a k → a ≠ 136) : RLi l h' := fun k hk => by rw [Fr_I f fun q => hW _ _ q rfl]; exact r k hk
theorem RLi_app {l : List Nat} {b : Nat} {h : jHp} (r : RLi l h) : RLi (l ++ [b]) (hSetI h 136 l.length (nI b)) := by
  intro k hk
  rw [List.length_append, List.length_singleton] at hk
  rw [hI_setI]
  by_cases e : k = l.length
  · subst e; simp
  · rw [if_neg (by omega), r k (by omega)]
    simp only [List.getD_eq_getElem?_getD]
    rw [List.getElem?_append_left (by omega)]
theorem RLi_pre {l : List Nat} {b : Nat} {h : jHp} (r : RLi (l ++ [b]) h) : RLi l h := by
  intro k hk
  rw [r k (by rw [List.length_append, List.length_singleton]; omega)]
  simp only [List.getD_eq_getElem?_getD]
  rw [List.getElem?_append_left hk]
theorem e_M_lie {A : AS} {h0 : jHp} {p : Nat} {hon : Int32} {n : Nat} (hp : p < aNp A) (hn5 : n ≤ 5) : ∀ d m, d < m → ∀ (pre : List Nat) (h : jHp), pre.length + d = n → (∀ x ∈ pre, x < aNb A ∧ aPe A x = p) → MW Wli A h0 h → RG p hon h → RLi pre h →
    ∃ h', f_M_lie m [.ref 98, .int (nI p), .int (nI pre.length), .int (nI n)] h = some (some (.int (if (lieF A p hon d pre).isSome then 1 else 0)), h') ∧ MW Wli A h0 h' ∧ RG p hon h' ∧ (match lieF A p hon d pre with
      | some l => RLi l h' ∧ l.length = n
      | none => RLi pre h') := by
  intro d
  induction d with
  | zero =>
    intro m hm pre h hlen hpre hX rg rl
    cases m with
    | zero => omega
    | succ m =>
    have k := hX.2.1
    have hs := k.1
    have w := k.2.1
    have hn := w.1.1
    have hpn : pre.length = n := by omega
    have f1 : Fr (fun a k => a = 98 ∧ k = 59) h (hSetI h 98 59 (nI n)) := Fr_set _ ⟨rfl, rfl⟩
    have m1 : MW Wli A h0 (hSetI h 98 59 (nI n)) := MW_step hX f1 (by intro a k hv; unfold Wli Wof Wmk cM; omega)
    have rg1 := RG_fr rg f1 (by intro a k; omega)
    have rl1 := RLi_fr rl f1 (by intro a k; omega)
    have lo : LOk A (some (p, pre)) none none := ⟨fun q h => by cases h; exact ⟨by simp only; omega, by simp only; omega, hpre⟩, fun q h => (by cases h), fun q h => by cases h⟩
    have ro : ROf (some (p, pre)) none none (hSetI h 98 59 (nI n)) := ⟨rg1.1, fun q hq => by cases hq; exact ⟨by rw [hI_setI, if_pos ⟨rfl, rfl⟩, hpn], rl1⟩, rg1.2.1, rg1.2.2.1⟩
    have g70 := rg1.2.2.2
    generalize hh1 : hSetI h 98 59 (nI n) = h1 at *
    obtain ⟨h2, e2, m2, -, -, hlt⟩ := e_M_outcome m1.2.1 m1.2.2 lo ro
    have hvl : ∀ v, sOuV A (some (p, pre)) none none = some v → v < 2 ^ 20 := fun v hv => sOuV_lt hlt hv
    clear hlt
    have m2' := MW_trans m1 (MW_mono m2 Wof_li)
    have rg2 := RG_fr rg1 m2.1 (by unfold Wof Wmk; intro a k; omega)
    have rl2 := RLi_fr rl1 m2.1 (by unfold Wof Wmk; intro a k; omega)
    have hs1 := m1.2.1.1
    have k2 := m2.2.1
    have hs2 := k2.1
    refine ⟨h2, ?_, m2', rg2, ?_⟩
    · have hlf : (lieF A p hon 0 pre).isSome = lieO A p hon pre := by
        unfold lieF
        split <;> rename_i q
        · rw [q]; rfl
        · simp only [Bool.not_eq_true] at q; rw [q]; rfl
      rw [hlf]
      rw [hpn]
      cases ho : sOuV A (some (p, pre)) none none with
      | none =>
        have hL : lieO A p hon pre = false := by simp [lieO, ho]
        rw [hL]
        rw [ho] at e2
        simp (disch := first | assumption | omega) [f_M_lie, body_M_lie, j_meth, j_out, j_rok, j_pad, lg_sl, s_seq_w, isN_inl, isN_inr, s_if, jb, x_c, x_iloc, x_aloc, x_lloc, x_bin, x_un, o_add, o_sub, o_mul, o_and, o_or, o_xor, o_shl, o_shr, o_ushr, o_max, o_min, o_i2b, o_i2c, o_i2l, o_l2i, x_fld, j_fget, x_idx, j_aget, x_len, j_alen, x_ofb, x_ite, xs_nil, xs_cons, x_callv, x_calls, s_callv, s_calls, j_recv, j_ret, j_retv, b_cmp, b_and, b_or, b_not, b_ofi, b_ite, b_true, s_skip, s_set, j_ty, j_lset, j_kill, s_inc, s_fput, j_fput, s_fop, s_aput, j_aput, j_nar, s_aop, s_ret, s_retv, s_go, s_pop, x_linc, x_finc, Value.category, if_icmp.holds, List.flatMap_cons, List.flatMap_nil, List.length_cons, List.length_append, List.length_nil, List.set_cons_succ, List.set_cons_zero, List.getElem?_cons_succ, List.getElem?_cons_zero, List.replicate, ite_and', ite_or', ite_int', nI_leI, nI_ltI, nI_eq, nI_add, nI_1, pk_mul, nI_clamp, n_in', nI_pos', nI_pos, n_m1e, n_01, n_10, sT_98, sT_99, sT_100, sT_101, sT_102, sT_103, sT_104, sT_105, sT_106, sT_107, sT_108, sT_109, sT_110, sT_111, sT_112, sT_113, sT_114, sT_115, sT_116, sT_117, sT_118, sT_119, sT_120, sT_121, sT_122, sT_123, sT_124, sT_125, sT_126, sT_127, sT_128, sT_129, sT_130, sT_131, sT_132, sT_133, sT_134, sT_135, sT_136, sT_137, sT_138, sT_139, sT_140, sR_98_1, sR_98_4, sR_98_5, sR_98_6, sR_98_7, sR_98_8, sR_98_9, sR_98_10, sR_98_12, sR_98_13, sR_98_14, sR_98_15, sR_98_16, sR_98_17, sR_98_18, sR_98_19, sR_98_20, sR_98_21, sR_98_22, sR_98_23, sR_98_24, sR_98_25, sR_98_26, sR_98_27, sR_98_28, sR_98_29, sR_98_31, sR_98_34, sR_98_35, sR_98_36, sR_98_42, sR_98_44, sR_98_45, sR_98_47, sR_98_49, sR_98_51, sR_98_56, sR_98_58, sR_98_62, sR_98_65, sR_98_66, sR_98_69, hh1, e2, vOI]
      | some v =>
        have hv := hvl v ho
        rw [ho] at e2
        have eb := e_M_bondOf k2 (S := v) (p := p) (by omega) (by omega)
        have er := e_M_rank k2 (S := v) (p := p) (by omega) hp
        have c70 := rg2.2.2.2
        have hb31 := sBnd_31 w (S := v) (p := p)
        have hr31 : ∀ n, sRnk A v p = some n → n < 2 ^ 31 := fun n hn => by have := sRnk_lt w hn; omega
        cases hob : sBnd A v p with
        | none =>
          have hL : lieO A p hon pre = false := by simp [lieO, ho, hob]
          rw [hL]
          rw [hob] at eb
          simp (disch := first | assumption | omega) [f_M_lie, body_M_lie, j_meth, j_out, j_rok, j_pad, lg_sl, s_seq_w, isN_inl, isN_inr, s_if, jb, x_c, x_iloc, x_aloc, x_lloc, x_bin, x_un, o_add, o_sub, o_mul, o_and, o_or, o_xor, o_shl, o_shr, o_ushr, o_max, o_min, o_i2b, o_i2c, o_i2l, o_l2i, x_fld, j_fget, x_idx, j_aget, x_len, j_alen, x_ofb, x_ite, xs_nil, xs_cons, x_callv, x_calls, s_callv, s_calls, j_recv, j_ret, j_retv, b_cmp, b_and, b_or, b_not, b_ofi, b_ite, b_true, s_skip, s_set, j_ty, j_lset, j_kill, s_inc, s_fput, j_fput, s_fop, s_aput, j_aput, j_nar, s_aop, s_ret, s_retv, s_go, s_pop, x_linc, x_finc, Value.category, if_icmp.holds, List.flatMap_cons, List.flatMap_nil, List.length_cons, List.length_append, List.length_nil, List.set_cons_succ, List.set_cons_zero, List.getElem?_cons_succ, List.getElem?_cons_zero, List.replicate, ite_and', ite_or', ite_int', nI_leI, nI_ltI, nI_eq, nI_add, nI_1, pk_mul, nI_clamp, n_in', nI_pos', nI_pos, n_m1e, n_01, n_10, sT_98, sT_99, sT_100, sT_101, sT_102, sT_103, sT_104, sT_105, sT_106, sT_107, sT_108, sT_109, sT_110, sT_111, sT_112, sT_113, sT_114, sT_115, sT_116, sT_117, sT_118, sT_119, sT_120, sT_121, sT_122, sT_123, sT_124, sT_125, sT_126, sT_127, sT_128, sT_129, sT_130, sT_131, sT_132, sT_133, sT_134, sT_135, sT_136, sT_137, sT_138, sT_139, sT_140, sR_98_1, sR_98_4, sR_98_5, sR_98_6, sR_98_7, sR_98_8, sR_98_9, sR_98_10, sR_98_12, sR_98_13, sR_98_14, sR_98_15, sR_98_16, sR_98_17, sR_98_18, sR_98_19, sR_98_20, sR_98_21, sR_98_22, sR_98_23, sR_98_24, sR_98_25, sR_98_26, sR_98_27, sR_98_28, sR_98_29, sR_98_31, sR_98_34, sR_98_35, sR_98_36, sR_98_42, sR_98_44, sR_98_45, sR_98_47, sR_98_49, sR_98_51, sR_98_56, sR_98_58, sR_98_62, sR_98_65, sR_98_66, sR_98_69, hh1, e2, vOI, eb, oI_n]
        | some b =>
          rw [hob] at eb
          have hb := n_m1e (hb31 b hob)
          cases hoq : sRnk A v p with
          | none =>
            have hL : lieO A p hon pre = false := by simp [lieO, ho, hob, hoq]
            rw [hL]
            rw [hoq] at er
            simp (disch := first | assumption | omega) [f_M_lie, body_M_lie, j_meth, j_out, j_rok, j_pad, lg_sl, s_seq_w, isN_inl, isN_inr, s_if, jb, x_c, x_iloc, x_aloc, x_lloc, x_bin, x_un, o_add, o_sub, o_mul, o_and, o_or, o_xor, o_shl, o_shr, o_ushr, o_max, o_min, o_i2b, o_i2c, o_i2l, o_l2i, x_fld, j_fget, x_idx, j_aget, x_len, j_alen, x_ofb, x_ite, xs_nil, xs_cons, x_callv, x_calls, s_callv, s_calls, j_recv, j_ret, j_retv, b_cmp, b_and, b_or, b_not, b_ofi, b_ite, b_true, s_skip, s_set, j_ty, j_lset, j_kill, s_inc, s_fput, j_fput, s_fop, s_aput, j_aput, j_nar, s_aop, s_ret, s_retv, s_go, s_pop, x_linc, x_finc, Value.category, if_icmp.holds, List.flatMap_cons, List.flatMap_nil, List.length_cons, List.length_append, List.length_nil, List.set_cons_succ, List.set_cons_zero, List.getElem?_cons_succ, List.getElem?_cons_zero, List.replicate, ite_and', ite_or', ite_int', nI_leI, nI_ltI, nI_eq, nI_add, nI_1, pk_mul, nI_clamp, n_in', nI_pos', nI_pos, n_m1e, n_01, n_10, sT_98, sT_99, sT_100, sT_101, sT_102, sT_103, sT_104, sT_105, sT_106, sT_107, sT_108, sT_109, sT_110, sT_111, sT_112, sT_113, sT_114, sT_115, sT_116, sT_117, sT_118, sT_119, sT_120, sT_121, sT_122, sT_123, sT_124, sT_125, sT_126, sT_127, sT_128, sT_129, sT_130, sT_131, sT_132, sT_133, sT_134, sT_135, sT_136, sT_137, sT_138, sT_139, sT_140, sR_98_1, sR_98_4, sR_98_5, sR_98_6, sR_98_7, sR_98_8, sR_98_9, sR_98_10, sR_98_12, sR_98_13, sR_98_14, sR_98_15, sR_98_16, sR_98_17, sR_98_18, sR_98_19, sR_98_20, sR_98_21, sR_98_22, sR_98_23, sR_98_24, sR_98_25, sR_98_26, sR_98_27, sR_98_28, sR_98_29, sR_98_31, sR_98_34, sR_98_35, sR_98_36, sR_98_42, sR_98_44, sR_98_45, sR_98_47, sR_98_49, sR_98_51, sR_98_56, sR_98_58, sR_98_62, sR_98_65, sR_98_66, sR_98_69, hh1, e2, vOI, eb, er, oI_n, oI_s, hb]
          | some q =>
            rw [hoq] at er
            have hq := n_m1e (hr31 q hoq)
            by_cases hlt : nI q < hon
            · have hL : lieO A p hon pre = true := by simp [lieO, ho, hob, hoq, hlt]
              rw [hL]
              simp (disch := first | assumption | omega) [f_M_lie, body_M_lie, j_meth, j_out, j_rok, j_pad, lg_sl, s_seq_w, isN_inl, isN_inr, s_if, jb, x_c, x_iloc, x_aloc, x_lloc, x_bin, x_un, o_add, o_sub, o_mul, o_and, o_or, o_xor, o_shl, o_shr, o_ushr, o_max, o_min, o_i2b, o_i2c, o_i2l, o_l2i, x_fld, j_fget, x_idx, j_aget, x_len, j_alen, x_ofb, x_ite, xs_nil, xs_cons, x_callv, x_calls, s_callv, s_calls, j_recv, j_ret, j_retv, b_cmp, b_and, b_or, b_not, b_ofi, b_ite, b_true, s_skip, s_set, j_ty, j_lset, j_kill, s_inc, s_fput, j_fput, s_fop, s_aput, j_aput, j_nar, s_aop, s_ret, s_retv, s_go, s_pop, x_linc, x_finc, Value.category, if_icmp.holds, List.flatMap_cons, List.flatMap_nil, List.length_cons, List.length_append, List.length_nil, List.set_cons_succ, List.set_cons_zero, List.getElem?_cons_succ, List.getElem?_cons_zero, List.replicate, ite_and', ite_or', ite_int', nI_leI, nI_ltI, nI_eq, nI_add, nI_1, pk_mul, nI_clamp, n_in', nI_pos', nI_pos, n_m1e, n_01, n_10, sT_98, sT_99, sT_100, sT_101, sT_102, sT_103, sT_104, sT_105, sT_106, sT_107, sT_108, sT_109, sT_110, sT_111, sT_112, sT_113, sT_114, sT_115, sT_116, sT_117, sT_118, sT_119, sT_120, sT_121, sT_122, sT_123, sT_124, sT_125, sT_126, sT_127, sT_128, sT_129, sT_130, sT_131, sT_132, sT_133, sT_134, sT_135, sT_136, sT_137, sT_138, sT_139, sT_140, sR_98_1, sR_98_4, sR_98_5, sR_98_6, sR_98_7, sR_98_8, sR_98_9, sR_98_10, sR_98_12, sR_98_13, sR_98_14, sR_98_15, sR_98_16, sR_98_17, sR_98_18, sR_98_19, sR_98_20, sR_98_21, sR_98_22, sR_98_23, sR_98_24, sR_98_25, sR_98_26, sR_98_27, sR_98_28, sR_98_29, sR_98_31, sR_98_34, sR_98_35, sR_98_36, sR_98_42, sR_98_44, sR_98_45, sR_98_47, sR_98_49, sR_98_51, sR_98_56, sR_98_58, sR_98_62, sR_98_65, sR_98_66, sR_98_69, hh1, e2, vOI, eb, er, oI_n, oI_s, hb, hq, c70, hlt]
            · have hL : lieO A p hon pre = false := by simp [lieO, ho, hob, hoq, hlt]
              rw [hL]
              simp (disch := first | assumption | omega) [f_M_lie, body_M_lie, j_meth, j_out, j_rok, j_pad, lg_sl, s_seq_w, isN_inl, isN_inr, s_if, jb, x_c, x_iloc, x_aloc, x_lloc, x_bin, x_un, o_add, o_sub, o_mul, o_and, o_or, o_xor, o_shl, o_shr, o_ushr, o_max, o_min, o_i2b, o_i2c, o_i2l, o_l2i, x_fld, j_fget, x_idx, j_aget, x_len, j_alen, x_ofb, x_ite, xs_nil, xs_cons, x_callv, x_calls, s_callv, s_calls, j_recv, j_ret, j_retv, b_cmp, b_and, b_or, b_not, b_ofi, b_ite, b_true, s_skip, s_set, j_ty, j_lset, j_kill, s_inc, s_fput, j_fput, s_fop, s_aput, j_aput, j_nar, s_aop, s_ret, s_retv, s_go, s_pop, x_linc, x_finc, Value.category, if_icmp.holds, List.flatMap_cons, List.flatMap_nil, List.length_cons, List.length_append, List.length_nil, List.set_cons_succ, List.set_cons_zero, List.getElem?_cons_succ, List.getElem?_cons_zero, List.replicate, ite_and', ite_or', ite_int', nI_leI, nI_ltI, nI_eq, nI_add, nI_1, pk_mul, nI_clamp, n_in', nI_pos', nI_pos, n_m1e, n_01, n_10, sT_98, sT_99, sT_100, sT_101, sT_102, sT_103, sT_104, sT_105, sT_106, sT_107, sT_108, sT_109, sT_110, sT_111, sT_112, sT_113, sT_114, sT_115, sT_116, sT_117, sT_118, sT_119, sT_120, sT_121, sT_122, sT_123, sT_124, sT_125, sT_126, sT_127, sT_128, sT_129, sT_130, sT_131, sT_132, sT_133, sT_134, sT_135, sT_136, sT_137, sT_138, sT_139, sT_140, sR_98_1, sR_98_4, sR_98_5, sR_98_6, sR_98_7, sR_98_8, sR_98_9, sR_98_10, sR_98_12, sR_98_13, sR_98_14, sR_98_15, sR_98_16, sR_98_17, sR_98_18, sR_98_19, sR_98_20, sR_98_21, sR_98_22, sR_98_23, sR_98_24, sR_98_25, sR_98_26, sR_98_27, sR_98_28, sR_98_29, sR_98_31, sR_98_34, sR_98_35, sR_98_36, sR_98_42, sR_98_44, sR_98_45, sR_98_47, sR_98_49, sR_98_51, sR_98_56, sR_98_58, sR_98_62, sR_98_65, sR_98_66, sR_98_69, hh1, e2, vOI, eb, er, oI_n, oI_s, hb, hq, c70, hlt]
    · unfold lieF
      split
      · rename_i l hl
        split at hl
        · cases hl; exact ⟨rl2, hpn⟩
        · cases hl
      · exact rl2
  | succ d ih =>
    intro m hm pre h hlen hpre hX rg rl
    cases m with
    | zero => omega
    | succ m =>
    have k := hX.2.1
    have hs := k.1
    have w := k.2.1
    have hn := w.1.1
    have h20 := w.2.2.1.1
    have hne : ¬ pre.length = n := by omega
    have hprel : ∀ x ∈ pre, x < aNb A := fun x hx => (hpre x hx).1
    have hL := loop_wp (lb := 1) (lc := 2) (c := lc_M_lie_1 (f_M_lie m)) (b := lb_M_lie_1 (f_M_lie m)) (u := lu_M_lie_1 (f_M_lie m)) (aNb A)
      (fun i st => ∃ h' v5 v6, st = ([.ref 98, .int (nI p), .int (nI pre.length), .int (nI n), .int (nI i), v5, v6], h') ∧ MW Wli A h0 h' ∧ RG p hon h' ∧ RLi pre h' ∧ ∀ b, b < i → (if lieC A p pre b then lieF A p hon d (pre ++ [b]) else none).isSome = false)
      (fun r => ∃ h' L, MW Wli A h0 h' ∧ RG p hon h' ∧ ((∃ l, lieF A p hon (d + 1) pre = some l ∧ RLi l h' ∧ l.length = n ∧ r = (.inr (some (.int (nI 1))), (L, h'))) ∨ (lieF A p hon (d + 1) pre = none ∧ RLi pre h' ∧ r = (.inl 0, (L, h')))))
      ?_ ?_ ([.ref 98, .int (nI p), .int (nI pre.length), .int (nI n), .int (nI 0), .null, .null], h) ⟨h, _, _, rfl, hX, rg, rl, fun b hb => by cases hb⟩
    · obtain ⟨r, e, h', L, m', rg', ⟨l, g1, g2, g3, rfl⟩ | ⟨g1, g2, rfl⟩⟩ := hL
      · rw [g1]
        refine ⟨h', ?_, m', rg', g2, g3⟩
        simp only [nI_0] at e
        simp (disch := first | assumption | omega) [f_M_lie, body_M_lie, j_meth, j_out, j_rok, j_pad, lg_sl, s_seq_w, isN_inl, isN_inr, s_if, jb, x_c, x_iloc, x_aloc, x_lloc, x_bin, x_un, o_add, o_sub, o_mul, o_and, o_or, o_xor, o_shl, o_shr, o_ushr, o_max, o_min, o_i2b, o_i2c, o_i2l, o_l2i, x_fld, j_fget, x_idx, j_aget, x_len, j_alen, x_ofb, x_ite, xs_nil, xs_cons, x_callv, x_calls, s_callv, s_calls, j_recv, j_ret, j_retv, b_cmp, b_and, b_or, b_not, b_ofi, b_ite, b_true, s_skip, s_set, j_ty, j_lset, j_kill, s_inc, s_fput, j_fput, s_fop, s_aput, j_aput, j_nar, s_aop, s_ret, s_retv, s_go, s_pop, x_linc, x_finc, Value.category, if_icmp.holds, List.flatMap_cons, List.flatMap_nil, List.length_cons, List.length_append, List.length_nil, List.set_cons_succ, List.set_cons_zero, List.getElem?_cons_succ, List.getElem?_cons_zero, List.replicate, ite_and', ite_or', ite_int', nI_leI, nI_ltI, nI_eq, nI_add, nI_1, pk_mul, nI_clamp, n_in', nI_pos', nI_pos, n_m1e, n_01, n_10, sT_98, sT_99, sT_100, sT_101, sT_102, sT_103, sT_104, sT_105, sT_106, sT_107, sT_108, sT_109, sT_110, sT_111, sT_112, sT_113, sT_114, sT_115, sT_116, sT_117, sT_118, sT_119, sT_120, sT_121, sT_122, sT_123, sT_124, sT_125, sT_126, sT_127, sT_128, sT_129, sT_130, sT_131, sT_132, sT_133, sT_134, sT_135, sT_136, sT_137, sT_138, sT_139, sT_140, sR_98_1, sR_98_4, sR_98_5, sR_98_6, sR_98_7, sR_98_8, sR_98_9, sR_98_10, sR_98_12, sR_98_13, sR_98_14, sR_98_15, sR_98_16, sR_98_17, sR_98_18, sR_98_19, sR_98_20, sR_98_21, sR_98_22, sR_98_23, sR_98_24, sR_98_25, sR_98_26, sR_98_27, sR_98_28, sR_98_29, sR_98_31, sR_98_34, sR_98_35, sR_98_36, sR_98_42, sR_98_44, sR_98_45, sR_98_47, sR_98_49, sR_98_51, sR_98_56, sR_98_58, sR_98_62, sR_98_65, sR_98_66, sR_98_69, hne, nI_0, e, n_11]
      · rw [g1]
        refine ⟨h', ?_, m', rg', g2⟩
        simp only [nI_0] at e
        simp (disch := first | assumption | omega) [f_M_lie, body_M_lie, j_meth, j_out, j_rok, j_pad, lg_sl, s_seq_w, isN_inl, isN_inr, s_if, jb, x_c, x_iloc, x_aloc, x_lloc, x_bin, x_un, o_add, o_sub, o_mul, o_and, o_or, o_xor, o_shl, o_shr, o_ushr, o_max, o_min, o_i2b, o_i2c, o_i2l, o_l2i, x_fld, j_fget, x_idx, j_aget, x_len, j_alen, x_ofb, x_ite, xs_nil, xs_cons, x_callv, x_calls, s_callv, s_calls, j_recv, j_ret, j_retv, b_cmp, b_and, b_or, b_not, b_ofi, b_ite, b_true, s_skip, s_set, j_ty, j_lset, j_kill, s_inc, s_fput, j_fput, s_fop, s_aput, j_aput, j_nar, s_aop, s_ret, s_retv, s_go, s_pop, x_linc, x_finc, Value.category, if_icmp.holds, List.flatMap_cons, List.flatMap_nil, List.length_cons, List.length_append, List.length_nil, List.set_cons_succ, List.set_cons_zero, List.getElem?_cons_succ, List.getElem?_cons_zero, List.replicate, ite_and', ite_or', ite_int', nI_leI, nI_ltI, nI_eq, nI_add, nI_1, pk_mul, nI_clamp, n_in', nI_pos', nI_pos, n_m1e, n_01, n_10, sT_98, sT_99, sT_100, sT_101, sT_102, sT_103, sT_104, sT_105, sT_106, sT_107, sT_108, sT_109, sT_110, sT_111, sT_112, sT_113, sT_114, sT_115, sT_116, sT_117, sT_118, sT_119, sT_120, sT_121, sT_122, sT_123, sT_124, sT_125, sT_126, sT_127, sT_128, sT_129, sT_130, sT_131, sT_132, sT_133, sT_134, sT_135, sT_136, sT_137, sT_138, sT_139, sT_140, sR_98_1, sR_98_4, sR_98_5, sR_98_6, sR_98_7, sR_98_8, sR_98_9, sR_98_10, sR_98_12, sR_98_13, sR_98_14, sR_98_15, sR_98_16, sR_98_17, sR_98_18, sR_98_19, sR_98_20, sR_98_21, sR_98_22, sR_98_23, sR_98_24, sR_98_25, sR_98_26, sR_98_27, sR_98_28, sR_98_29, sR_98_31, sR_98_34, sR_98_35, sR_98_36, sR_98_42, sR_98_44, sR_98_45, sR_98_47, sR_98_49, sR_98_51, sR_98_56, sR_98_58, sR_98_62, sR_98_65, sR_98_66, sR_98_69, hne, nI_0, e]
    · rintro i st hi ⟨h1, v5, v6, rfl, m1, rg1, rl1, hall⟩
      have k1 := m1.2.1
      have hs1 := k1.1
      have q1 := k1.2.2.2.1.2.1
      obtain ⟨d1, -⟩ := k1.2.2.2.1.2.2 i hi
      have l1 := (w.2.2.1.2.1 i hi).1
      have e2 := e_lie_2 k1 (f_M_lie m) (p := p) (b := i) (pre := pre) (by omega) rl1 hprel hi (nI n) 0 (aPe A i == p)
      have hlc : nfo (fun j s => s && pre.getD j 0 != i) pre.length (aPe A i == p) = lieC A p pre i := rfl
      rw [hlc] at e2
      simp only [nI_0] at e2
      have hset' : (if (aPe A i == p) = true then (1 : Int32) else 0) = if aPe A i = p then 1 else 0 := by simp
      rw [hset'] at e2
      cases hC : lieC A p pre i with
      | false =>
        left
        rw [hC] at e2
        refine ⟨([.ref 98, .int (nI p), .int (nI pre.length), .int (nI n), .int (nI (i + 1)), .int 0, .int (nI pre.length)], h1), ?_, h1, _, _, rfl, m1, rg1, rl1, fun b hb => ?_⟩
        · by_cases hpe : aPe A i = p
          · rw [if_pos hpe] at e2
            simp (disch := first | assumption | omega) [lstp, lc_M_lie_1, lb_M_lie_1, lu_M_lie_1, j_meth, j_out, j_rok, j_pad, lg_sl, s_seq_w, isN_inl, isN_inr, s_if, jb, x_c, x_iloc, x_aloc, x_lloc, x_bin, x_un, o_add, o_sub, o_mul, o_and, o_or, o_xor, o_shl, o_shr, o_ushr, o_max, o_min, o_i2b, o_i2c, o_i2l, o_l2i, x_fld, j_fget, x_idx, j_aget, x_len, j_alen, x_ofb, x_ite, xs_nil, xs_cons, x_callv, x_calls, s_callv, s_calls, j_recv, j_ret, j_retv, b_cmp, b_and, b_or, b_not, b_ofi, b_ite, b_true, s_skip, s_set, j_ty, j_lset, j_kill, s_inc, s_fput, j_fput, s_fop, s_aput, j_aput, j_nar, s_aop, s_ret, s_retv, s_go, s_pop, x_linc, x_finc, Value.category, if_icmp.holds, List.flatMap_cons, List.flatMap_nil, List.length_cons, List.length_append, List.length_nil, List.set_cons_succ, List.set_cons_zero, List.getElem?_cons_succ, List.getElem?_cons_zero, List.replicate, ite_and', ite_or', ite_int', nI_leI, nI_ltI, nI_eq, nI_add, nI_1, pk_mul, nI_clamp, n_in', nI_pos', nI_pos, n_m1e, n_01, n_10, sT_98, sT_99, sT_100, sT_101, sT_102, sT_103, sT_104, sT_105, sT_106, sT_107, sT_108, sT_109, sT_110, sT_111, sT_112, sT_113, sT_114, sT_115, sT_116, sT_117, sT_118, sT_119, sT_120, sT_121, sT_122, sT_123, sT_124, sT_125, sT_126, sT_127, sT_128, sT_129, sT_130, sT_131, sT_132, sT_133, sT_134, sT_135, sT_136, sT_137, sT_138, sT_139, sT_140, sR_98_1, sR_98_4, sR_98_5, sR_98_6, sR_98_7, sR_98_8, sR_98_9, sR_98_10, sR_98_12, sR_98_13, sR_98_14, sR_98_15, sR_98_16, sR_98_17, sR_98_18, sR_98_19, sR_98_20, sR_98_21, sR_98_22, sR_98_23, sR_98_24, sR_98_25, sR_98_26, sR_98_27, sR_98_28, sR_98_29, sR_98_31, sR_98_34, sR_98_35, sR_98_36, sR_98_42, sR_98_44, sR_98_45, sR_98_47, sR_98_49, sR_98_51, sR_98_56, sR_98_58, sR_98_62, sR_98_65, sR_98_66, sR_98_69, q1, hi, d1, hpe, nI_0, e2]
          · rw [if_neg hpe] at e2
            simp (disch := first | assumption | omega) [lstp, lc_M_lie_1, lb_M_lie_1, lu_M_lie_1, j_meth, j_out, j_rok, j_pad, lg_sl, s_seq_w, isN_inl, isN_inr, s_if, jb, x_c, x_iloc, x_aloc, x_lloc, x_bin, x_un, o_add, o_sub, o_mul, o_and, o_or, o_xor, o_shl, o_shr, o_ushr, o_max, o_min, o_i2b, o_i2c, o_i2l, o_l2i, x_fld, j_fget, x_idx, j_aget, x_len, j_alen, x_ofb, x_ite, xs_nil, xs_cons, x_callv, x_calls, s_callv, s_calls, j_recv, j_ret, j_retv, b_cmp, b_and, b_or, b_not, b_ofi, b_ite, b_true, s_skip, s_set, j_ty, j_lset, j_kill, s_inc, s_fput, j_fput, s_fop, s_aput, j_aput, j_nar, s_aop, s_ret, s_retv, s_go, s_pop, x_linc, x_finc, Value.category, if_icmp.holds, List.flatMap_cons, List.flatMap_nil, List.length_cons, List.length_append, List.length_nil, List.set_cons_succ, List.set_cons_zero, List.getElem?_cons_succ, List.getElem?_cons_zero, List.replicate, ite_and', ite_or', ite_int', nI_leI, nI_ltI, nI_eq, nI_add, nI_1, pk_mul, nI_clamp, n_in', nI_pos', nI_pos, n_m1e, n_01, n_10, sT_98, sT_99, sT_100, sT_101, sT_102, sT_103, sT_104, sT_105, sT_106, sT_107, sT_108, sT_109, sT_110, sT_111, sT_112, sT_113, sT_114, sT_115, sT_116, sT_117, sT_118, sT_119, sT_120, sT_121, sT_122, sT_123, sT_124, sT_125, sT_126, sT_127, sT_128, sT_129, sT_130, sT_131, sT_132, sT_133, sT_134, sT_135, sT_136, sT_137, sT_138, sT_139, sT_140, sR_98_1, sR_98_4, sR_98_5, sR_98_6, sR_98_7, sR_98_8, sR_98_9, sR_98_10, sR_98_12, sR_98_13, sR_98_14, sR_98_15, sR_98_16, sR_98_17, sR_98_18, sR_98_19, sR_98_20, sR_98_21, sR_98_22, sR_98_23, sR_98_24, sR_98_25, sR_98_26, sR_98_27, sR_98_28, sR_98_29, sR_98_31, sR_98_34, sR_98_35, sR_98_36, sR_98_42, sR_98_44, sR_98_45, sR_98_47, sR_98_49, sR_98_51, sR_98_56, sR_98_58, sR_98_62, sR_98_65, sR_98_66, sR_98_69, q1, hi, d1, hpe, nI_0, e2]
        · by_cases e : b = i
          · rw [e, hC]; rfl
          · exact hall b (by omega)
      | true =>
        have hpe := lieC_pe hC
        rw [hC, if_pos hpe] at e2
        have f2 : Fr (fun a _ => a = 136) h1 (hSetI h1 136 pre.length (nI i)) := Fr_set _ rfl
        have m2 : MW Wli A h0 (hSetI h1 136 pre.length (nI i)) := MW_step m1 f2 (by intro a k hv; unfold Wli Wof Wmk cM; omega)
        have rg2 := RG_fr rg1 f2 (by intro a k; omega)
        have rl2 := RLi_app (b := i) rl1
        have hs2 := m2.2.1.1
        generalize hh2 : hSetI h1 136 pre.length (nI i) = h2 at *
        obtain ⟨h3, e3, m3, rg3, g3⟩ := ih m (by omega) (pre ++ [i]) h2 (by rw [List.length_append, List.length_singleton]; omega) (fun x hx => by
          rcases List.mem_append.mp hx with q | q
          · exact hpre x q
          · simp only [List.mem_singleton] at q; subst q; exact ⟨hi, hpe⟩) m2 rg2 rl2
        rw [List.length_append, List.length_singleton] at e3
        cases hF : lieF A p hon d (pre ++ [i]) with
        | none =>
          left
          rw [hF] at e3 g3
          refine ⟨([.ref 98, .int (nI p), .int (nI pre.length), .int (nI n), .int (nI (i + 1)), .int 1, .int (nI pre.length)], h3), ?_, h3, _, _, rfl, m3, rg3, RLi_pre g3, fun b hb => ?_⟩
          · simp (disch := first | assumption | omega) [lstp, lc_M_lie_1, lb_M_lie_1, lu_M_lie_1, j_meth, j_out, j_rok, j_pad, lg_sl, s_seq_w, isN_inl, isN_inr, s_if, jb, x_c, x_iloc, x_aloc, x_lloc, x_bin, x_un, o_add, o_sub, o_mul, o_and, o_or, o_xor, o_shl, o_shr, o_ushr, o_max, o_min, o_i2b, o_i2c, o_i2l, o_l2i, x_fld, j_fget, x_idx, j_aget, x_len, j_alen, x_ofb, x_ite, xs_nil, xs_cons, x_callv, x_calls, s_callv, s_calls, j_recv, j_ret, j_retv, b_cmp, b_and, b_or, b_not, b_ofi, b_ite, b_true, s_skip, s_set, j_ty, j_lset, j_kill, s_inc, s_fput, j_fput, s_fop, s_aput, j_aput, j_nar, s_aop, s_ret, s_retv, s_go, s_pop, x_linc, x_finc, Value.category, if_icmp.holds, List.flatMap_cons, List.flatMap_nil, List.length_cons, List.length_append, List.length_nil, List.set_cons_succ, List.set_cons_zero, List.getElem?_cons_succ, List.getElem?_cons_zero, List.replicate, ite_and', ite_or', ite_int', nI_leI, nI_ltI, nI_eq, nI_add, nI_1, pk_mul, nI_clamp, n_in', nI_pos', nI_pos, n_m1e, n_01, n_10, sT_98, sT_99, sT_100, sT_101, sT_102, sT_103, sT_104, sT_105, sT_106, sT_107, sT_108, sT_109, sT_110, sT_111, sT_112, sT_113, sT_114, sT_115, sT_116, sT_117, sT_118, sT_119, sT_120, sT_121, sT_122, sT_123, sT_124, sT_125, sT_126, sT_127, sT_128, sT_129, sT_130, sT_131, sT_132, sT_133, sT_134, sT_135, sT_136, sT_137, sT_138, sT_139, sT_140, sR_98_1, sR_98_4, sR_98_5, sR_98_6, sR_98_7, sR_98_8, sR_98_9, sR_98_10, sR_98_12, sR_98_13, sR_98_14, sR_98_15, sR_98_16, sR_98_17, sR_98_18, sR_98_19, sR_98_20, sR_98_21, sR_98_22, sR_98_23, sR_98_24, sR_98_25, sR_98_26, sR_98_27, sR_98_28, sR_98_29, sR_98_31, sR_98_34, sR_98_35, sR_98_36, sR_98_42, sR_98_44, sR_98_45, sR_98_47, sR_98_49, sR_98_51, sR_98_56, sR_98_58, sR_98_62, sR_98_65, sR_98_66, sR_98_69, q1, hi, d1, hpe, nI_0, e2, hh2, e3]
          · by_cases e : b = i
            · rw [e, hC, if_pos rfl, hF]; rfl
            · exact hall b (by omega)
        | some l =>
          right
          rw [hF] at e3 g3
          have hfs : lieF A p hon (d + 1) pre = some l := by
            unfold lieF fsO
            rw [fst1_of (j := i) hi (by simp only [hC, if_true, hF]; rfl) hall]
            simp only [hC, if_true, hF]
          refine ⟨(.inr (some (.int (nI 1))), ([.ref 98, .int (nI p), .int (nI pre.length), .int (nI n), .int (nI i), .int 1, .int (nI pre.length)], h3)), ?_, h3, _, m3, rg3, Or.inl ⟨l, hfs, g3.1, g3.2, rfl⟩⟩
          simp (disch := first | assumption | omega) [lstp, lc_M_lie_1, lb_M_lie_1, lu_M_lie_1, j_meth, j_out, j_rok, j_pad, lg_sl, s_seq_w, isN_inl, isN_inr, s_if, jb, x_c, x_iloc, x_aloc, x_lloc, x_bin, x_un, o_add, o_sub, o_mul, o_and, o_or, o_xor, o_shl, o_shr, o_ushr, o_max, o_min, o_i2b, o_i2c, o_i2l, o_l2i, x_fld, j_fget, x_idx, j_aget, x_len, j_alen, x_ofb, x_ite, xs_nil, xs_cons, x_callv, x_calls, s_callv, s_calls, j_recv, j_ret, j_retv, b_cmp, b_and, b_or, b_not, b_ofi, b_ite, b_true, s_skip, s_set, j_ty, j_lset, j_kill, s_inc, s_fput, j_fput, s_fop, s_aput, j_aput, j_nar, s_aop, s_ret, s_retv, s_go, s_pop, x_linc, x_finc, Value.category, if_icmp.holds, List.flatMap_cons, List.flatMap_nil, List.length_cons, List.length_append, List.length_nil, List.set_cons_succ, List.set_cons_zero, List.getElem?_cons_succ, List.getElem?_cons_zero, List.replicate, ite_and', ite_or', ite_int', nI_leI, nI_ltI, nI_eq, nI_add, nI_1, pk_mul, nI_clamp, n_in', nI_pos', nI_pos, n_m1e, n_01, n_10, sT_98, sT_99, sT_100, sT_101, sT_102, sT_103, sT_104, sT_105, sT_106, sT_107, sT_108, sT_109, sT_110, sT_111, sT_112, sT_113, sT_114, sT_115, sT_116, sT_117, sT_118, sT_119, sT_120, sT_121, sT_122, sT_123, sT_124, sT_125, sT_126, sT_127, sT_128, sT_129, sT_130, sT_131, sT_132, sT_133, sT_134, sT_135, sT_136, sT_137, sT_138, sT_139, sT_140, sR_98_1, sR_98_4, sR_98_5, sR_98_6, sR_98_7, sR_98_8, sR_98_9, sR_98_10, sR_98_12, sR_98_13, sR_98_14, sR_98_15, sR_98_16, sR_98_17, sR_98_18, sR_98_19, sR_98_20, sR_98_21, sR_98_22, sR_98_23, sR_98_24, sR_98_25, sR_98_26, sR_98_27, sR_98_28, sR_98_29, sR_98_31, sR_98_34, sR_98_35, sR_98_36, sR_98_42, sR_98_44, sR_98_45, sR_98_47, sR_98_49, sR_98_51, sR_98_56, sR_98_58, sR_98_62, sR_98_65, sR_98_66, sR_98_69, q1, hi, d1, hpe, nI_0, e2, hh2, e3]
    · rintro st ⟨h1, v5, v6, rfl, m1, rg1, rl1, hall⟩
      have hs1 := m1.2.1.1
      have q1 := m1.2.1.2.2.2.1.2.1
      have hfs : lieF A p hon (d + 1) pre = none := by
        unfold lieF fsO
        rw [fst1_no hall]
      refine ⟨(.inl 0, ([.ref 98, .int (nI p), .int (nI pre.length), .int (nI n), .int (nI (aNb A)), v5, v6], h1)), ?_, h1, _, m1, rg1, Or.inr ⟨hfs, rl1, rfl⟩⟩
      simp (disch := first | assumption | omega) [lstp, lc_M_lie_1, lb_M_lie_1, lu_M_lie_1, j_meth, j_out, j_rok, j_pad, lg_sl, s_seq_w, isN_inl, isN_inr, s_if, jb, x_c, x_iloc, x_aloc, x_lloc, x_bin, x_un, o_add, o_sub, o_mul, o_and, o_or, o_xor, o_shl, o_shr, o_ushr, o_max, o_min, o_i2b, o_i2c, o_i2l, o_l2i, x_fld, j_fget, x_idx, j_aget, x_len, j_alen, x_ofb, x_ite, xs_nil, xs_cons, x_callv, x_calls, s_callv, s_calls, j_recv, j_ret, j_retv, b_cmp, b_and, b_or, b_not, b_ofi, b_ite, b_true, s_skip, s_set, j_ty, j_lset, j_kill, s_inc, s_fput, j_fput, s_fop, s_aput, j_aput, j_nar, s_aop, s_ret, s_retv, s_go, s_pop, x_linc, x_finc, Value.category, if_icmp.holds, List.flatMap_cons, List.flatMap_nil, List.length_cons, List.length_append, List.length_nil, List.set_cons_succ, List.set_cons_zero, List.getElem?_cons_succ, List.getElem?_cons_zero, List.replicate, ite_and', ite_or', ite_int', nI_leI, nI_ltI, nI_eq, nI_add, nI_1, pk_mul, nI_clamp, n_in', nI_pos', nI_pos, n_m1e, n_01, n_10, sT_98, sT_99, sT_100, sT_101, sT_102, sT_103, sT_104, sT_105, sT_106, sT_107, sT_108, sT_109, sT_110, sT_111, sT_112, sT_113, sT_114, sT_115, sT_116, sT_117, sT_118, sT_119, sT_120, sT_121, sT_122, sT_123, sT_124, sT_125, sT_126, sT_127, sT_128, sT_129, sT_130, sT_131, sT_132, sT_133, sT_134, sT_135, sT_136, sT_137, sT_138, sT_139, sT_140, sR_98_1, sR_98_4, sR_98_5, sR_98_6, sR_98_7, sR_98_8, sR_98_9, sR_98_10, sR_98_12, sR_98_13, sR_98_14, sR_98_15, sR_98_16, sR_98_17, sR_98_18, sR_98_19, sR_98_20, sR_98_21, sR_98_22, sR_98_23, sR_98_24, sR_98_25, sR_98_26, sR_98_27, sR_98_28, sR_98_29, sR_98_31, sR_98_34, sR_98_35, sR_98_36, sR_98_42, sR_98_44, sR_98_45, sR_98_47, sR_98_49, sR_98_51, sR_98_56, sR_98_58, sR_98_62, sR_98_65, sR_98_66, sR_98_69, q1]
