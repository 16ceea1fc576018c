/-! takes, placeOf, gainsBy, forget -/
theorem tE_and (A : AS) (f l P : Nat) : tE A f l P &&& 255 = tP A f l P := by
  have ta := t_and _ (tP_256 A f l P)
  unfold tE
  cases tG A f l P
  · exact ta.1
  · exact ta.2.1
theorem tE_g (A : AS) (f l P : Nat) : tE A f l P &&& 256 = if tG A f l P then 256 else 0 := by
  have ta := t_and _ (tP_256 A f l P)
  unfold tE
  cases tG A f l P
  · exact ta.2.2.1
  · exact ta.2.2.2.1
theorem tE_lt (A : AS) (f l P : Nat) : tE A f l P < 512 := by
  have := tP_256 A f l P
  unfold tE
  split <;> omega
theorem aLv_0 (A : AS) (f : Nat) : aLv A f 0 = A := by
  unfold aLv lv
  rw [Nat.zero_min]
  exact aMore_0 A f
theorem tP_0 (A : AS) (f P : Nat) : tP A f 0 P = prt f (slM A (sTk A f (pSet A f P))) := by
  unfold tP
  rw [aLv_0]
theorem CO_of {A : AS} {k bl : Nat} {h : jHp} (t : CR A k bl h) (hb : bl ≠ 0) : COr A k h := by
  have h7 := t.2.1 hb
  rcases t.1 with q | q
  · rw [h7] at q; exact absurd q (by decide)
  · exact q.2
theorem e_D_takes {A : AS} {h : jHp} (x : CX A h) {k a P bl : Nat} (hk : k < 4) (d : CD0 A k a h) (t : CR A k bl h) (hP : P < 2 ^ nOf A k) : ∃ h', f_D_takes [.ref (dA k), .int (nI P)] h = some (some (.int (nI (tP A k 0 P))), h') ∧ Fr (Wdk k) h h' ∧ CR A k (bl ||| 1) h' := by
  have hs := x.1
  have w := x.2.1
  have h8 := nOf_le w k
  have hp8 : 2 ^ nOf A k ≤ 256 := Nat.pow_le_pow_right (n := 2) (by decide) h8
  obtain ⟨h1, e1, f1, t1⟩ := e_D_ready x hk d (l := 0) (by decide) t
  rw [Nat.pow_zero] at t1
  refine ⟨h1, ?_, f1, t1⟩
  have hs1 := Fr_shape hs f1
  obtain ⟨u1, -, -, r4, -, -, t7, -⟩ := DSh_of hs1 hk
  obtain ⟨t0, -⟩ := DSh_of hs hk
  have n7 : dA k + 7 ≠ 0 := by omega
  have c := t1.2.2.2.2 0 (by decide) (by simp [Nat.testBit_or]) P hP
  rw [Nat.mul_zero, Nat.zero_add] at c
  have hP255 := (t_and P (by omega)).1
  have hte := tE_and A k 0 P
  have tl := tE_lt A k 0 P
  clear t t1 x d
  generalize tE A k 0 P = E at *
  generalize tP A k 0 P = T at *
  generalize dA k + 7 = D7 at *
  generalize dA k = D at *
  simp only [nI_0] at e1
  simp (disch := first | assumption | omega) [f_D_takes, body_D_takes, j_meth, j_out, j_rok, j_pad, lg_sl, s_seq_w, isN_inl, isN_inr, s_if, jb, x_c, x_iloc, x_aloc, x_lloc, x_bin, x_un, o_add, o_sub, o_mul, o_and, o_or, o_xor, o_shl, o_shr, o_ushr, o_max, o_min, o_i2b, o_i2c, o_i2l, o_l2i, x_fld, j_fget, x_idx, j_aget, x_len, j_alen, x_ofb, x_ite, xs_nil, xs_cons, x_callv, x_calls, s_callv, s_calls, j_recv, j_ret, j_retv, b_cmp, b_and, b_or, b_not, b_ofi, b_ite, b_true, s_skip, s_set, j_ty, j_lset, j_kill, s_inc, s_fput, j_fput, s_fop, s_aput, j_aput, j_nar, s_aop, s_ret, s_retv, s_go, s_pop, x_linc, x_finc, Value.category, if_icmp.holds, List.flatMap_cons, List.flatMap_nil, List.length_cons, List.length_append, List.length_nil, List.set_cons_succ, List.set_cons_zero, List.getElem?_cons_succ, List.getElem?_cons_zero, List.replicate, ite_and', ite_or', ite_int', nI_leI, nI_ltI, nI_eq, nI_add, nI_1, pk_mul, nI_clamp, n_in', nI_pos', nI_pos, n_m1e, n_01, n_10, sT_1, sR_1_0, sR_1_1, sR_1_2, sR_1_3, sR_1_4, sR_1_5, sR_1_6, sR_1_7, sR_1_8, sR_1_9, sT_2, sT_3, sT_4, sT_5, sT_6, sT_7, sT_8, sT_9, sT_10, sT_11, sT_12, sT_13, sT_14, sR_2_1, sR_2_2, sR_2_3, sR_2_4, sR_2_5, sR_2_6, sR_2_7, sR_2_8, sR_2_9, sR_2_10, sR_2_11, sR_2_12, sT_15, sT_16, sT_17, sT_18, sT_19, sT_20, sT_21, sT_22, sT_23, sR_15_1, sR_15_2, sR_15_3, sR_15_4, sR_15_5, sR_15_6, sR_15_7, sR_15_8, sT_24, sT_25, sT_26, sT_27, sT_28, sT_29, sR_24_1, sR_24_2, sR_24_3, sR_24_4, sR_24_5, sT_71, sT_72, sR_71_0, sR_71_1, sR_71_2, sR_71_3, sR_71_4, sT_73, sT_74, sT_75, sR_73_0, sR_73_1, sR_73_2, sR_73_3, sR_73_4, sR_73_5, sT_84, sT_85, sT_86, sT_87, sR_84_0, sR_84_1, sR_84_2, sR_84_3, sR_84_4, sR_84_5, sT_88, sT_89, sR_88_0, sT_90, sT_91, sR_90_0, nI_0, t0, e1, u1, r4, n7, t7, n_and, hP255, c, hte]
theorem e_D_placeOf {A : AS} {h : jHp} (x : CX A h) {k a i bl : Nat} (hk : k < 4) (d : CD0 A k a h) (t : CR A k bl h) (hi : i < nOf A k) : ∃ h', f_D_placeOf [.ref (dA k), .int (nI i)] h = some (some (.int (nI (plc A k i))), h') ∧ Fr (Wdk k) h h' ∧ CR A k bl h' := by
  have hs := x.1
  have w := x.2.1
  have h8 := nOf_le w k
  have hp8 : 2 ^ nOf A k ≤ 256 := Nat.pow_le_pow_right (n := 2) (by decide) h8
  obtain ⟨h1, e1, f1, g1, c1⟩ := e_D_arrange x hk d t.1
  refine ⟨h1, ?_, Fr_mono f1 fun a j q => Wda_Wdk q, Or.inr ⟨g1, c1⟩, fun _ => g1, t.2.2.1, by rw [Fr_I f1 (by unfold Wda; omega)]; exact t.2.2.2.1, fun l hl hb P hP => by rw [Fr_I f1 (by unfold Wda; omega)]; exact t.2.2.2.2 l hl hb P hP⟩
  have hs1 := Fr_shape hs f1
  obtain ⟨u1, -, -, -, -, r6, -, -, t9, -⟩ := DSh_of hs1 hk
  obtain ⟨t0, -⟩ := DSh_of hs hk
  have n9 : dA k + 9 ≠ 0 := by omega
  have c := c1.1 i hi
  clear t c1 x d f1
  generalize dA k + 9 = D9 at *
  generalize dA k = D at *
  simp (disch := first | assumption | omega) [f_D_placeOf, body_D_placeOf, j_meth, j_out, j_rok, j_pad, lg_sl, s_seq_w, isN_inl, isN_inr, s_if, jb, x_c, x_iloc, x_aloc, x_lloc, x_bin, x_un, o_add, o_sub, o_mul, o_and, o_or, o_xor, o_shl, o_shr, o_ushr, o_max, o_min, o_i2b, o_i2c, o_i2l, o_l2i, x_fld, j_fget, x_idx, j_aget, x_len, j_alen, x_ofb, x_ite, xs_nil, xs_cons, x_callv, x_calls, s_callv, s_calls, j_recv, j_ret, j_retv, b_cmp, b_and, b_or, b_not, b_ofi, b_ite, b_true, s_skip, s_set, j_ty, j_lset, j_kill, s_inc, s_fput, j_fput, s_fop, s_aput, j_aput, j_nar, s_aop, s_ret, s_retv, s_go, s_pop, x_linc, x_finc, Value.category, if_icmp.holds, List.flatMap_cons, List.flatMap_nil, List.length_cons, List.length_append, List.length_nil, List.set_cons_succ, List.set_cons_zero, List.getElem?_cons_succ, List.getElem?_cons_zero, List.replicate, ite_and', ite_or', ite_int', nI_leI, nI_ltI, nI_eq, nI_add, nI_1, pk_mul, nI_clamp, n_in', nI_pos', nI_pos, n_m1e, n_01, n_10, sT_1, sR_1_0, sR_1_1, sR_1_2, sR_1_3, sR_1_4, sR_1_5, sR_1_6, sR_1_7, sR_1_8, sR_1_9, sT_2, sT_3, sT_4, sT_5, sT_6, sT_7, sT_8, sT_9, sT_10, sT_11, sT_12, sT_13, sT_14, sR_2_1, sR_2_2, sR_2_3, sR_2_4, sR_2_5, sR_2_6, sR_2_7, sR_2_8, sR_2_9, sR_2_10, sR_2_11, sR_2_12, sT_15, sT_16, sT_17, sT_18, sT_19, sT_20, sT_21, sT_22, sT_23, sR_15_1, sR_15_2, sR_15_3, sR_15_4, sR_15_5, sR_15_6, sR_15_7, sR_15_8, sT_24, sT_25, sT_26, sT_27, sT_28, sT_29, sR_24_1, sR_24_2, sR_24_3, sR_24_4, sR_24_5, sT_71, sT_72, sR_71_0, sR_71_1, sR_71_2, sR_71_3, sR_71_4, sT_73, sT_74, sT_75, sR_73_0, sR_73_1, sR_73_2, sR_73_3, sR_73_4, sR_73_5, sT_84, sT_85, sT_86, sT_87, sR_84_0, sR_84_1, sR_84_2, sR_84_3, sR_84_4, sR_84_5, sT_88, sT_89, sR_88_0, sT_90, sT_91, sR_90_0, t0, e1, u1, r6, n9, t9, c]
theorem e_D_forget {A : AS} {h : jHp} (hs : Shape h) {k : Nat} (hk : k < 4) : ∃ h', f_D_forget [.ref (dA k)] h = some (none, h') ∧ Fr (Wdk k) h h' ∧ CR A k 0 h' := by
  obtain ⟨t1, -⟩ := DSh_of hs hk
  refine ⟨hSetI (hSetI h (dA k) 7 (nI 0)) (dA k) 8 (nI 0), ?_, Fr_trans (Fr_set _ (Or.inl ⟨rfl, Or.inl rfl⟩)) (Fr_set _ (Or.inl ⟨rfl, Or.inr rfl⟩)), Or.inl ?_, fun z => absurd rfl z, by decide, ?_, fun l _ hb => ?_⟩
  · have hs2 : Shape (hSetI h (dA k) 7 (nI 0)) := hs
    obtain ⟨u1, -⟩ := DSh_of hs2 hk
    have n0 : (nI 0 = 1) = False := by decide
    generalize dA k = D at *
    simp (disch := first | assumption | omega) [f_D_forget, body_D_forget, j_meth, j_out, j_rok, j_pad, lg_sl, s_seq_w, isN_inl, isN_inr, s_if, jb, x_c, x_iloc, x_aloc, x_lloc, x_bin, x_un, o_add, o_sub, o_mul, o_and, o_or, o_xor, o_shl, o_shr, o_ushr, o_max, o_min, o_i2b, o_i2c, o_i2l, o_l2i, x_fld, j_fget, x_idx, j_aget, x_len, j_alen, x_ofb, x_ite, xs_nil, xs_cons, x_callv, x_calls, s_callv, s_calls, j_recv, j_ret, j_retv, b_cmp, b_and, b_or, b_not, b_ofi, b_ite, b_true, s_skip, s_set, j_ty, j_lset, j_kill, s_inc, s_fput, j_fput, s_fop, s_aput, j_aput, j_nar, s_aop, s_ret, s_retv, s_go, s_pop, x_linc, x_finc, Value.category, if_icmp.holds, List.flatMap_cons, List.flatMap_nil, List.length_cons, List.length_append, List.length_nil, List.set_cons_succ, List.set_cons_zero, List.getElem?_cons_succ, List.getElem?_cons_zero, List.replicate, ite_and', ite_or', ite_int', nI_leI, nI_ltI, nI_eq, nI_add, nI_1, pk_mul, nI_clamp, n_in', nI_pos', nI_pos, n_m1e, n_01, n_10, sT_1, sR_1_0, sR_1_1, sR_1_2, sR_1_3, sR_1_4, sR_1_5, sR_1_6, sR_1_7, sR_1_8, sR_1_9, sT_2, sT_3, sT_4, sT_5, sT_6, sT_7, sT_8, sT_9, sT_10, sT_11, sT_12, sT_13, sT_14, sR_2_1, sR_2_2, sR_2_3, sR_2_4, sR_2_5, sR_2_6, sR_2_7, sR_2_8, sR_2_9, sR_2_10, sR_2_11, sR_2_12, sT_15, sT_16, sT_17, sT_18, sT_19, sT_20, sT_21, sT_22, sT_23, sR_15_1, sR_15_2, sR_15_3, sR_15_4, sR_15_5, sR_15_6, sR_15_7, sR_15_8, sT_24, sT_25, sT_26, sT_27, sT_28, sT_29, sR_24_1, sR_24_2, sR_24_3, sR_24_4, sR_24_5, sT_71, sT_72, sR_71_0, sR_71_1, sR_71_2, sR_71_3, sR_71_4, sT_73, sT_74, sT_75, sR_73_0, sR_73_1, sR_73_2, sR_73_3, sR_73_4, sR_73_5, sT_84, sT_85, sT_86, sT_87, sR_84_0, sR_84_1, sR_84_2, sR_84_3, sR_84_4, sR_84_5, sT_88, sT_89, sR_88_0, sT_90, sT_91, sR_90_0, t1, hT_setI, nI_0]
  · rw [hI_setI, if_neg (by omega), hI_setI, if_pos ⟨rfl, rfl⟩]; decide
  · rw [hI_setI, if_pos ⟨rfl, rfl⟩]
  · rw [Nat.zero_testBit] at hb; cases hb
def gnP (A : AS) (k l P : Nat) : Bool := tE A k l P != tE A k (l - 1) P
def gnB (A : AS) (k l : Nat) : Bool := (aCh A k).isSome && lv A k l != lv A k (l - 1) && (fst1 (gnP A k l) (2 ^ nOf A k)).isSome
theorem e_D_gainsBy {A : AS} {h : jHp} (x : CX A h) {k a l bl : Nat} (hk : k < 4) (d : CD0 A k a h) (t : CR A k bl h) (hl : l < 4) (h0 : 0 < l) : ∃ h' bl', f_D_gainsBy [.ref (dA k), .int (nI l)] h = some (some (.int (if gnB A k l then 1 else 0)), h') ∧ Fr (Wdk k) h h' ∧ CR A k bl' h' ∧ SubB bl bl' := by
  have hs := x.1
  have w := x.2.1
  have h8 := nOf_le w k
  have hp8 : 2 ^ nOf A k ≤ 256 := Nat.pow_le_pow_right (n := 2) (by decide) h8
  obtain ⟨t1, r1, r2, r4, r5, r6, t7, t8, t9, -⟩ := DSh_of hs hk
  have d3 := d.2.1
  have dca := d.2.2.1
  have dc := d.2.2.2
  have u0 := (CA_of hs dca).1
  have ha0 : a ≠ 0 := by rcases dca with rfl | rfl | rfl | rfl | rfl <;> decide
  have q0 := dc.1
  have m1 := e_Ch_mostWith (l := l) hs dca dc (chD_ok w k).1 hl
  have m2 := e_Ch_mostWith (l := l - 1) hs dca dc (chD_ok w k).1 (by omega)
  have hmo := (chD_ok w k).1
  have hsu : nI l - nI 1 = nI (l - 1) := pk_sub (by omega)
  have h10 : ((1 : Int32) = 0) = False := by decide
  have hl1 : min l (8 - cMost (chD A k)) = lv A k l := rfl
  have hl2 : min (l - 1) (8 - cMost (chD A k)) = lv A k (l - 1) := rfl
  have l1 : lv A k l ≤ l := Nat.min_le_left _ _
  have l2 : lv A k (l - 1) ≤ l - 1 := Nat.min_le_left _ _
  rw [hl1] at m1
  rw [hl2] at m2
  unfold gnB
  by_cases z1 : (aCh A k).isSome = true
  · rw [z1] at q0
    simp only [if_true] at q0
    by_cases z2 : lv A k l = lv A k (l - 1)
    · refine ⟨h, bl, ?_, Fr_refl _ _, t, fun _ q => q⟩
      rw [z2] at m1 ⊢
      clear t x d dc
      generalize dA k = D at *
      generalize cMost (chD A k) + lv A k (l - 1) = mm at *
      simp (disch := first | assumption | omega) [f_D_gainsBy, body_D_gainsBy, j_meth, j_out, j_rok, j_pad, lg_sl, s_seq_w, isN_inl, isN_inr, s_if, jb, x_c, x_iloc, x_aloc, x_lloc, x_bin, x_un, o_add, o_sub, o_mul, o_and, o_or, o_xor, o_shl, o_shr, o_ushr, o_max, o_min, o_i2b, o_i2c, o_i2l, o_l2i, x_fld, j_fget, x_idx, j_aget, x_len, j_alen, x_ofb, x_ite, xs_nil, xs_cons, x_callv, x_calls, s_callv, s_calls, j_recv, j_ret, j_retv, b_cmp, b_and, b_or, b_not, b_ofi, b_ite, b_true, s_skip, s_set, j_ty, j_lset, j_kill, s_inc, s_fput, j_fput, s_fop, s_aput, j_aput, j_nar, s_aop, s_ret, s_retv, s_go, s_pop, x_linc, x_finc, Value.category, if_icmp.holds, List.flatMap_cons, List.flatMap_nil, List.length_cons, List.length_append, List.length_nil, List.set_cons_succ, List.set_cons_zero, List.getElem?_cons_succ, List.getElem?_cons_zero, List.replicate, ite_and', ite_or', ite_int', nI_leI, nI_ltI, nI_eq, nI_add, nI_1, pk_mul, nI_clamp, n_in', nI_pos', nI_pos, n_m1e, n_01, n_10, sT_1, sR_1_0, sR_1_1, sR_1_2, sR_1_3, sR_1_4, sR_1_5, sR_1_6, sR_1_7, sR_1_8, sR_1_9, sT_2, sT_3, sT_4, sT_5, sT_6, sT_7, sT_8, sT_9, sT_10, sT_11, sT_12, sT_13, sT_14, sR_2_1, sR_2_2, sR_2_3, sR_2_4, sR_2_5, sR_2_6, sR_2_7, sR_2_8, sR_2_9, sR_2_10, sR_2_11, sR_2_12, sT_15, sT_16, sT_17, sT_18, sT_19, sT_20, sT_21, sT_22, sT_23, sR_15_1, sR_15_2, sR_15_3, sR_15_4, sR_15_5, sR_15_6, sR_15_7, sR_15_8, sT_24, sT_25, sT_26, sT_27, sT_28, sT_29, sR_24_1, sR_24_2, sR_24_3, sR_24_4, sR_24_5, sT_71, sT_72, sR_71_0, sR_71_1, sR_71_2, sR_71_3, sR_71_4, sT_73, sT_74, sT_75, sR_73_0, sR_73_1, sR_73_2, sR_73_3, sR_73_4, sR_73_5, sT_84, sT_85, sT_86, sT_87, sR_84_0, sR_84_1, sR_84_2, sR_84_3, sR_84_4, sR_84_5, sT_88, sT_89, sR_88_0, sT_90, sT_91, sR_90_0, t1, d3, ha0, u0, q0, h10, m1, hsu, m2]
      decide
    · have hne : (cMost (chD A k) + lv A k l = cMost (chD A k) + lv A k (l - 1)) = False := by
        exact eq_false fun e => z2 (by omega)
      obtain ⟨h1, e1, f1, c1⟩ := e_D_ready x hk d (l := l - 1) (by omega) t
      have hW : ∀ a j, Wdk k a j → ¬ cC a j := fun a j q => Wdk_cC hk q
      have x1 := CX_fr x f1 hW
      have d1 := CD0_fr hk d f1 hW
      obtain ⟨h2, e2, f2, c2⟩ := e_D_ready x1 hk d1 hl c1
      have x2 := CX_fr x1 f2 hW
      have d2 := CD0_fr hk d1 f2 hW
      have hs2 := x2.1
      refine ⟨h2, _, ?_, Fr_trans f1 f2, c2, fun i hi => by rw [Nat.testBit_or, Nat.testBit_or, hi]; rfl⟩
      have ct1 := c2.2.2.2.2 l hl (by rw [Nat.testBit_or, Nat.testBit_two_pow]; simp)
      have ct2 := c2.2.2.2.2 (l - 1) (by omega) (by rw [Nat.testBit_or, Nat.testBit_or, Nat.testBit_two_pow]; simp)
      have c10 : hI h2 10 k = nI (nOf A k) := x2.2.2.1.2.2.1 k hk
      have d20 := d2.1
      obtain ⟨u1, s1, -, s4, -, -, u7, -⟩ := DSh_of hs2 hk
      obtain ⟨w1, -⟩ := DSh_of x1.1 hk
      have n7 : dA k + 7 ≠ 0 := by omega
      have hsn := n_shl 1 (k := nOf A k) (by omega)
      rw [Nat.one_mul] at hsn
      have hc1 : l * 256 = 256 * l := Nat.mul_comm _ _
      have hc2 : (l - 1) * 256 = 256 * (l - 1) := Nat.mul_comm _ _
      have step : ∀ P, P < 2 ^ nOf A k → lstp 1 2 lc_D_gainsBy_1 lb_D_gainsBy_1 lu_D_gainsBy_1 ([.ref (dA k), .int (nI l), .int (nI P)], h2) = some (if gnP A k l P = true then .inr (.inr (some (.int (nI 1))), ([.ref (dA k), .int (nI l), .int (nI P)], h2)) else .inl ([.ref (dA k), .int (nI l), .int (nI (P + 1))], h2)) := by
        intro P hP
        have cp1 := ct1 P hP
        have cp2 := ct2 P hP
        have tl1 := tE_lt A k l P
        have tl2 := tE_lt A k (l - 1) P
        unfold gnP
        have hq : (nI (tE A k l P) = nI (tE A k (l - 1) P)) = (tE A k l P = tE A k (l - 1) P) := propext (n_eq (by omega) (by omega))
        clear ct1 ct2 c1 c2 t x x1 x2 d d1 d2 f1 f2 dc
        generalize tE A k l P = E1 at *
        generalize tE A k (l - 1) P = E2 at *
        generalize dA k + 7 = D7 at *
        generalize dA k = D at *
        generalize 2 ^ nOf A k = n2 at *
        by_cases q : E1 = E2
        · subst q
          simp (disch := first | assumption | omega) [lstp, lc_D_gainsBy_1, lb_D_gainsBy_1, lu_D_gainsBy_1, j_meth, j_out, j_rok, j_pad, lg_sl, s_seq_w, isN_inl, isN_inr, s_if, jb, x_c, x_iloc, x_aloc, x_lloc, x_bin, x_un, o_add, o_sub, o_mul, o_and, o_or, o_xor, o_shl, o_shr, o_ushr, o_max, o_min, o_i2b, o_i2c, o_i2l, o_l2i, x_fld, j_fget, x_idx, j_aget, x_len, j_alen, x_ofb, x_ite, xs_nil, xs_cons, x_callv, x_calls, s_callv, s_calls, j_recv, j_ret, j_retv, b_cmp, b_and, b_or, b_not, b_ofi, b_ite, b_true, s_skip, s_set, j_ty, j_lset, j_kill, s_inc, s_fput, j_fput, s_fop, s_aput, j_aput, j_nar, s_aop, s_ret, s_retv, s_go, s_pop, x_linc, x_finc, Value.category, if_icmp.holds, List.flatMap_cons, List.flatMap_nil, List.length_cons, List.length_append, List.length_nil, List.set_cons_succ, List.set_cons_zero, List.getElem?_cons_succ, List.getElem?_cons_zero, List.replicate, ite_and', ite_or', ite_int', nI_leI, nI_ltI, nI_eq, nI_add, nI_1, pk_mul, nI_clamp, n_in', nI_pos', nI_pos, n_m1e, n_01, n_10, sT_1, sR_1_0, sR_1_1, sR_1_2, sR_1_3, sR_1_4, sR_1_5, sR_1_6, sR_1_7, sR_1_8, sR_1_9, sT_2, sT_3, sT_4, sT_5, sT_6, sT_7, sT_8, sT_9, sT_10, sT_11, sT_12, sT_13, sT_14, sR_2_1, sR_2_2, sR_2_3, sR_2_4, sR_2_5, sR_2_6, sR_2_7, sR_2_8, sR_2_9, sR_2_10, sR_2_11, sR_2_12, sT_15, sT_16, sT_17, sT_18, sT_19, sT_20, sT_21, sT_22, sT_23, sR_15_1, sR_15_2, sR_15_3, sR_15_4, sR_15_5, sR_15_6, sR_15_7, sR_15_8, sT_24, sT_25, sT_26, sT_27, sT_28, sT_29, sR_24_1, sR_24_2, sR_24_3, sR_24_4, sR_24_5, sT_71, sT_72, sR_71_0, sR_71_1, sR_71_2, sR_71_3, sR_71_4, sT_73, sT_74, sT_75, sR_73_0, sR_73_1, sR_73_2, sR_73_3, sR_73_4, sR_73_5, sT_84, sT_85, sT_86, sT_87, sR_84_0, sR_84_1, sR_84_2, sR_84_3, sR_84_4, sR_84_5, sT_88, sT_89, sR_88_0, sT_90, sT_91, sR_90_0, u1, s1, d20, c10, hsn, hP, s4, n7, u7, hc1, hc2, hsu, cp1, cp2]
        · simp (disch := first | assumption | omega) [lstp, lc_D_gainsBy_1, lb_D_gainsBy_1, lu_D_gainsBy_1, j_meth, j_out, j_rok, j_pad, lg_sl, s_seq_w, isN_inl, isN_inr, s_if, jb, x_c, x_iloc, x_aloc, x_lloc, x_bin, x_un, o_add, o_sub, o_mul, o_and, o_or, o_xor, o_shl, o_shr, o_ushr, o_max, o_min, o_i2b, o_i2c, o_i2l, o_l2i, x_fld, j_fget, x_idx, j_aget, x_len, j_alen, x_ofb, x_ite, xs_nil, xs_cons, x_callv, x_calls, s_callv, s_calls, j_recv, j_ret, j_retv, b_cmp, b_and, b_or, b_not, b_ofi, b_ite, b_true, s_skip, s_set, j_ty, j_lset, j_kill, s_inc, s_fput, j_fput, s_fop, s_aput, j_aput, j_nar, s_aop, s_ret, s_retv, s_go, s_pop, x_linc, x_finc, Value.category, if_icmp.holds, List.flatMap_cons, List.flatMap_nil, List.length_cons, List.length_append, List.length_nil, List.set_cons_succ, List.set_cons_zero, List.getElem?_cons_succ, List.getElem?_cons_zero, List.replicate, ite_and', ite_or', ite_int', nI_leI, nI_ltI, nI_eq, nI_add, nI_1, pk_mul, nI_clamp, n_in', nI_pos', nI_pos, n_m1e, n_01, n_10, sT_1, sR_1_0, sR_1_1, sR_1_2, sR_1_3, sR_1_4, sR_1_5, sR_1_6, sR_1_7, sR_1_8, sR_1_9, sT_2, sT_3, sT_4, sT_5, sT_6, sT_7, sT_8, sT_9, sT_10, sT_11, sT_12, sT_13, sT_14, sR_2_1, sR_2_2, sR_2_3, sR_2_4, sR_2_5, sR_2_6, sR_2_7, sR_2_8, sR_2_9, sR_2_10, sR_2_11, sR_2_12, sT_15, sT_16, sT_17, sT_18, sT_19, sT_20, sT_21, sT_22, sT_23, sR_15_1, sR_15_2, sR_15_3, sR_15_4, sR_15_5, sR_15_6, sR_15_7, sR_15_8, sT_24, sT_25, sT_26, sT_27, sT_28, sT_29, sR_24_1, sR_24_2, sR_24_3, sR_24_4, sR_24_5, sT_71, sT_72, sR_71_0, sR_71_1, sR_71_2, sR_71_3, sR_71_4, sT_73, sT_74, sT_75, sR_73_0, sR_73_1, sR_73_2, sR_73_3, sR_73_4, sR_73_5, sT_84, sT_85, sT_86, sT_87, sR_84_0, sR_84_1, sR_84_2, sR_84_3, sR_84_4, sR_84_5, sT_88, sT_89, sR_88_0, sT_90, sT_91, sR_90_0, u1, s1, d20, c10, hsn, hP, s4, n7, u7, hc1, hc2, hsu, cp1, cp2, hq, q]
      generalize gnP A k l = pp at *
      have hL := loop_1 (lb := 1) (lc := 2) (c := lc_D_gainsBy_1) (b := lb_D_gainsBy_1) (u := lu_D_gainsBy_1) (2 ^ nOf A k) (fun i => (([.ref (dA k), .int (nI l), .int (nI i)], h2) : jS)) pp (fun i => (.inr (some (.int (nI 1))), ([.ref (dA k), .int (nI l), .int (nI i)], h2)))
        (fun i hi q => by rw [step i hi, if_pos q])
        (fun i hi q => by rw [step i hi, if_neg (by rw [q]; decide)])
        (by
          clear step ct1 ct2 c1 c2 t x x1 x2 d d1 d2 f1 f2 dc
          generalize dA k + 7 = D7 at *
          generalize dA k = D at *
          generalize 2 ^ nOf A k = n2 at *
          simp (disch := first | assumption | omega) [lstp, lc_D_gainsBy_1, lb_D_gainsBy_1, lu_D_gainsBy_1, j_meth, j_out, j_rok, j_pad, lg_sl, s_seq_w, isN_inl, isN_inr, s_if, jb, x_c, x_iloc, x_aloc, x_lloc, x_bin, x_un, o_add, o_sub, o_mul, o_and, o_or, o_xor, o_shl, o_shr, o_ushr, o_max, o_min, o_i2b, o_i2c, o_i2l, o_l2i, x_fld, j_fget, x_idx, j_aget, x_len, j_alen, x_ofb, x_ite, xs_nil, xs_cons, x_callv, x_calls, s_callv, s_calls, j_recv, j_ret, j_retv, b_cmp, b_and, b_or, b_not, b_ofi, b_ite, b_true, s_skip, s_set, j_ty, j_lset, j_kill, s_inc, s_fput, j_fput, s_fop, s_aput, j_aput, j_nar, s_aop, s_ret, s_retv, s_go, s_pop, x_linc, x_finc, Value.category, if_icmp.holds, List.flatMap_cons, List.flatMap_nil, List.length_cons, List.length_append, List.length_nil, List.set_cons_succ, List.set_cons_zero, List.getElem?_cons_succ, List.getElem?_cons_zero, List.replicate, ite_and', ite_or', ite_int', nI_leI, nI_ltI, nI_eq, nI_add, nI_1, pk_mul, nI_clamp, n_in', nI_pos', nI_pos, n_m1e, n_01, n_10, sT_1, sR_1_0, sR_1_1, sR_1_2, sR_1_3, sR_1_4, sR_1_5, sR_1_6, sR_1_7, sR_1_8, sR_1_9, sT_2, sT_3, sT_4, sT_5, sT_6, sT_7, sT_8, sT_9, sT_10, sT_11, sT_12, sT_13, sT_14, sR_2_1, sR_2_2, sR_2_3, sR_2_4, sR_2_5, sR_2_6, sR_2_7, sR_2_8, sR_2_9, sR_2_10, sR_2_11, sR_2_12, sT_15, sT_16, sT_17, sT_18, sT_19, sT_20, sT_21, sT_22, sT_23, sR_15_1, sR_15_2, sR_15_3, sR_15_4, sR_15_5, sR_15_6, sR_15_7, sR_15_8, sT_24, sT_25, sT_26, sT_27, sT_28, sT_29, sR_24_1, sR_24_2, sR_24_3, sR_24_4, sR_24_5, sT_71, sT_72, sR_71_0, sR_71_1, sR_71_2, sR_71_3, sR_71_4, sT_73, sT_74, sT_75, sR_73_0, sR_73_1, sR_73_2, sR_73_3, sR_73_4, sR_73_5, sT_84, sT_85, sT_86, sT_87, sR_84_0, sR_84_1, sR_84_2, sR_84_3, sR_84_4, sR_84_5, sT_88, sT_89, sR_88_0, sT_90, sT_91, sR_90_0, u1, s1, d20, c10, hsn])
      clear step ct1 ct2 c1 c2 t x x1 x2 d d1 d2 f1 f2 dc
      generalize dA k + 7 = D7 at *
      generalize dA k = D at *
      generalize cMost (chD A k) = mm at *
      have z2' : (lv A k l != lv A k (l - 1)) = true := by simp [z2]
      rw [z1, z2']
      cases hf : fst1 pp (2 ^ nOf A k) with
      | none =>
        rw [hf] at hL
        simp only [nI_0] at hL
        simp (disch := first | assumption | omega) [f_D_gainsBy, body_D_gainsBy, j_meth, j_out, j_rok, j_pad, lg_sl, s_seq_w, isN_inl, isN_inr, s_if, jb, x_c, x_iloc, x_aloc, x_lloc, x_bin, x_un, o_add, o_sub, o_mul, o_and, o_or, o_xor, o_shl, o_shr, o_ushr, o_max, o_min, o_i2b, o_i2c, o_i2l, o_l2i, x_fld, j_fget, x_idx, j_aget, x_len, j_alen, x_ofb, x_ite, xs_nil, xs_cons, x_callv, x_calls, s_callv, s_calls, j_recv, j_ret, j_retv, b_cmp, b_and, b_or, b_not, b_ofi, b_ite, b_true, s_skip, s_set, j_ty, j_lset, j_kill, s_inc, s_fput, j_fput, s_fop, s_aput, j_aput, j_nar, s_aop, s_ret, s_retv, s_go, s_pop, x_linc, x_finc, Value.category, if_icmp.holds, List.flatMap_cons, List.flatMap_nil, List.length_cons, List.length_append, List.length_nil, List.set_cons_succ, List.set_cons_zero, List.getElem?_cons_succ, List.getElem?_cons_zero, List.replicate, ite_and', ite_or', ite_int', nI_leI, nI_ltI, nI_eq, nI_add, nI_1, pk_mul, nI_clamp, n_in', nI_pos', nI_pos, n_m1e, n_01, n_10, sT_1, sR_1_0, sR_1_1, sR_1_2, sR_1_3, sR_1_4, sR_1_5, sR_1_6, sR_1_7, sR_1_8, sR_1_9, sT_2, sT_3, sT_4, sT_5, sT_6, sT_7, sT_8, sT_9, sT_10, sT_11, sT_12, sT_13, sT_14, sR_2_1, sR_2_2, sR_2_3, sR_2_4, sR_2_5, sR_2_6, sR_2_7, sR_2_8, sR_2_9, sR_2_10, sR_2_11, sR_2_12, sT_15, sT_16, sT_17, sT_18, sT_19, sT_20, sT_21, sT_22, sT_23, sR_15_1, sR_15_2, sR_15_3, sR_15_4, sR_15_5, sR_15_6, sR_15_7, sR_15_8, sT_24, sT_25, sT_26, sT_27, sT_28, sT_29, sR_24_1, sR_24_2, sR_24_3, sR_24_4, sR_24_5, sT_71, sT_72, sR_71_0, sR_71_1, sR_71_2, sR_71_3, sR_71_4, sT_73, sT_74, sT_75, sR_73_0, sR_73_1, sR_73_2, sR_73_3, sR_73_4, sR_73_5, sT_84, sT_85, sT_86, sT_87, sR_84_0, sR_84_1, sR_84_2, sR_84_3, sR_84_4, sR_84_5, sT_88, sT_89, sR_88_0, sT_90, sT_91, sR_90_0, t1, d3, ha0, u0, q0, h10, m1, hsu, m2, z2, e1, w1, e2, nI_0, hL]
      | some i =>
        rw [hf] at hL
        simp only [nI_0] at hL
        simp (disch := first | assumption | omega) [f_D_gainsBy, body_D_gainsBy, j_meth, j_out, j_rok, j_pad, lg_sl, s_seq_w, isN_inl, isN_inr, s_if, jb, x_c, x_iloc, x_aloc, x_lloc, x_bin, x_un, o_add, o_sub, o_mul, o_and, o_or, o_xor, o_shl, o_shr, o_ushr, o_max, o_min, o_i2b, o_i2c, o_i2l, o_l2i, x_fld, j_fget, x_idx, j_aget, x_len, j_alen, x_ofb, x_ite, xs_nil, xs_cons, x_callv, x_calls, s_callv, s_calls, j_recv, j_ret, j_retv, b_cmp, b_and, b_or, b_not, b_ofi, b_ite, b_true, s_skip, s_set, j_ty, j_lset, j_kill, s_inc, s_fput, j_fput, s_fop, s_aput, j_aput, j_nar, s_aop, s_ret, s_retv, s_go, s_pop, x_linc, x_finc, Value.category, if_icmp.holds, List.flatMap_cons, List.flatMap_nil, List.length_cons, List.length_append, List.length_nil, List.set_cons_succ, List.set_cons_zero, List.getElem?_cons_succ, List.getElem?_cons_zero, List.replicate, ite_and', ite_or', ite_int', nI_leI, nI_ltI, nI_eq, nI_add, nI_1, pk_mul, nI_clamp, n_in', nI_pos', nI_pos, n_m1e, n_01, n_10, sT_1, sR_1_0, sR_1_1, sR_1_2, sR_1_3, sR_1_4, sR_1_5, sR_1_6, sR_1_7, sR_1_8, sR_1_9, sT_2, sT_3, sT_4, sT_5, sT_6, sT_7, sT_8, sT_9, sT_10, sT_11, sT_12, sT_13, sT_14, sR_2_1, sR_2_2, sR_2_3, sR_2_4, sR_2_5, sR_2_6, sR_2_7, sR_2_8, sR_2_9, sR_2_10, sR_2_11, sR_2_12, sT_15, sT_16, sT_17, sT_18, sT_19, sT_20, sT_21, sT_22, sT_23, sR_15_1, sR_15_2, sR_15_3, sR_15_4, sR_15_5, sR_15_6, sR_15_7, sR_15_8, sT_24, sT_25, sT_26, sT_27, sT_28, sT_29, sR_24_1, sR_24_2, sR_24_3, sR_24_4, sR_24_5, sT_71, sT_72, sR_71_0, sR_71_1, sR_71_2, sR_71_3, sR_71_4, sT_73, sT_74, sT_75, sR_73_0, sR_73_1, sR_73_2, sR_73_3, sR_73_4, sR_73_5, sT_84, sT_85, sT_86, sT_87, sR_84_0, sR_84_1, sR_84_2, sR_84_3, sR_84_4, sR_84_5, sT_88, sT_89, sR_88_0, sT_90, sT_91, sR_90_0, t1, d3, ha0, u0, q0, h10, m1, hsu, m2, z2, e1, w1, e2, nI_0, hL, n_e1]
  · have z1' : (aCh A k).isSome = false := by simpa using z1
    refine ⟨h, bl, ?_, Fr_refl _ _, t, fun _ q => q⟩
    rw [z1'] at q0 ⊢
    simp only [Bool.false_eq_true, if_false] at q0
    clear t x d dc m1 m2
    generalize dA k = D at *
    simp (disch := first | assumption | omega) [f_D_gainsBy, body_D_gainsBy, j_meth, j_out, j_rok, j_pad, lg_sl, s_seq_w, isN_inl, isN_inr, s_if, jb, x_c, x_iloc, x_aloc, x_lloc, x_bin, x_un, o_add, o_sub, o_mul, o_and, o_or, o_xor, o_shl, o_shr, o_ushr, o_max, o_min, o_i2b, o_i2c, o_i2l, o_l2i, x_fld, j_fget, x_idx, j_aget, x_len, j_alen, x_ofb, x_ite, xs_nil, xs_cons, x_callv, x_calls, s_callv, s_calls, j_recv, j_ret, j_retv, b_cmp, b_and, b_or, b_not, b_ofi, b_ite, b_true, s_skip, s_set, j_ty, j_lset, j_kill, s_inc, s_fput, j_fput, s_fop, s_aput, j_aput, j_nar, s_aop, s_ret, s_retv, s_go, s_pop, x_linc, x_finc, Value.category, if_icmp.holds, List.flatMap_cons, List.flatMap_nil, List.length_cons, List.length_append, List.length_nil, List.set_cons_succ, List.set_cons_zero, List.getElem?_cons_succ, List.getElem?_cons_zero, List.replicate, ite_and', ite_or', ite_int', nI_leI, nI_ltI, nI_eq, nI_add, nI_1, pk_mul, nI_clamp, n_in', nI_pos', nI_pos, n_m1e, n_01, n_10, sT_1, sR_1_0, sR_1_1, sR_1_2, sR_1_3, sR_1_4, sR_1_5, sR_1_6, sR_1_7, sR_1_8, sR_1_9, sT_2, sT_3, sT_4, sT_5, sT_6, sT_7, sT_8, sT_9, sT_10, sT_11, sT_12, sT_13, sT_14, sR_2_1, sR_2_2, sR_2_3, sR_2_4, sR_2_5, sR_2_6, sR_2_7, sR_2_8, sR_2_9, sR_2_10, sR_2_11, sR_2_12, sT_15, sT_16, sT_17, sT_18, sT_19, sT_20, sT_21, sT_22, sT_23, sR_15_1, sR_15_2, sR_15_3, sR_15_4, sR_15_5, sR_15_6, sR_15_7, sR_15_8, sT_24, sT_25, sT_26, sT_27, sT_28, sT_29, sR_24_1, sR_24_2, sR_24_3, sR_24_4, sR_24_5, sT_71, sT_72, sR_71_0, sR_71_1, sR_71_2, sR_71_3, sR_71_4, sT_73, sT_74, sT_75, sR_73_0, sR_73_1, sR_73_2, sR_73_3, sR_73_4, sR_73_5, sT_84, sT_85, sT_86, sT_87, sR_84_0, sR_84_1, sR_84_2, sR_84_3, sR_84_4, sR_84_5, sT_88, sT_89, sR_88_0, sT_90, sT_91, sR_90_0, t1, d3, ha0, u0, q0]
    decide
