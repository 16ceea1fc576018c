/-! the Walk: prepare -/
def Wpr (a _j : Nat) : Prop := 73 ≤ a ∧ a ≤ 75
theorem Wpr_cC {a j : Nat} (q : Wpr a j) : ¬ cC a j := by
  unfold Wpr at q
  unfold cC isCA
  rintro (z | ⟨c, q1, q2, q3⟩ | z) <;> omega
theorem Wpk_pr {a j : Nat} (q : Wpk a j) : Wpr a j := by
  unfold Wpk at q
  unfold Wpr
  omega
/-- the Walk, ready to begin -/
def WPr (A : AS) (g : Int32) (h : jHp) : Prop := hI h 73 7 = g ∧ hI h 73 8 = nI (slM A (sWt A 0)) ∧ hI h 73 9 = nI 23 ∧ hI h 73 10 = 0 ∧ hI h 73 12 = 0 ∧ WLv A h
theorem e_W_prepare {A : AS} {h : jHp} (x : MK A h) (g : Int32) : ∃ h', f_W_prepare [.ref 73, .int g] h = some (none, h') ∧ Fr Wpr h h' ∧ WPr A g h' := by
  have hs := x.1.1
  have w := x.1.2.1
  have m0 := okS_0 A
  have fr : ∀ (h : jHp) (j : Nat) (v : Int32), Fr Wpr h (hSetI h 73 j v) := fun h j v => Fr_set _ ⟨by omega, by omega⟩
  generalize hh1 : hSetI h 73 7 g = h1
  generalize hh2 : hSetI h1 73 9 (nI 23) = h2
  generalize hh3 : hSetI h2 73 10 0 = h3
  generalize hh4 : hSetI h3 73 12 0 = h4
  have f1 : Fr Wpr h h1 := by rw [← hh1]; exact fr _ _ _
  have f2 : Fr Wpr h1 h2 := by rw [← hh2]; exact fr _ _ _
  have f3 : Fr Wpr h2 h3 := by rw [← hh3]; exact fr _ _ _
  have f4 : Fr Wpr h3 h4 := by rw [← hh4]; exact fr _ _ _
  have x1 := MK_fr x f1 fun a j q => Wpr_cC q
  have x2 := MK_fr x1 f2 fun a j q => Wpr_cC q
  have x3 := MK_fr x2 f3 fun a j q => Wpr_cC q
  have x4 := MK_fr x3 f4 fun a j q => Wpr_cC q
  have ew := e_Ma_wanted x4 m0.1 m0.2.1 m0.2.2
  generalize hh5 : hSetI h4 73 8 (nI (slM A (sWt A 0))) = h5
  have f5 : Fr Wpr h4 h5 := by rw [← hh5]; exact fr _ _ _
  have x5 := MK_fr x4 f5 fun a j q => Wpr_cC q
  obtain ⟨h6, e6, f6, l6⟩ := e_W_pickLive x5
  have hs1 := x1.1.1
  have hs2 := x2.1.1
  have hs3 := x3.1.1
  have hs4 := x4.1.1
  have hs5 := x5.1.1
  refine ⟨h6, ?_, Fr_trans f1 (Fr_trans f2 (Fr_trans f3 (Fr_trans f4 (Fr_trans f5 (Fr_mono f6 fun a j q => Wpk_pr q))))), ?_⟩
  · clear f1 f2 f3 f4 f5 f6 l6 x1 x2 x3 x4 x5 m0
    generalize nI (slM A (sWt A 0)) = Wz at *
    simp only [nI_0] at ew
    simp (disch := first | assumption | omega) [f_W_prepare, body_W_prepare, j_meth, j_out, j_rok, j_pad, lg_sl, s_seq_w, isN_inl, isN_inr, s_if, jb, x_c, x_iloc, x_aloc, x_lloc, x_bin, x_un, o_add, o_sub, o_mul, o_and, o_or, o_xor, o_shl, o_shr, o_ushr, o_max, o_min, o_i2b, o_i2c, o_i2l, o_l2i, x_fld, j_fget, x_idx, j_aget, x_len, j_alen, x_ofb, x_ite, xs_nil, xs_cons, x_callv, x_calls, s_callv, s_calls, j_recv, j_ret, j_retv, b_cmp, b_and, b_or, b_not, b_ofi, b_ite, b_true, s_skip, s_set, j_ty, j_lset, j_kill, s_inc, s_fput, j_fput, s_fop, s_aput, j_aput, j_nar, s_aop, s_ret, s_retv, s_go, s_pop, x_linc, x_finc, Value.category, if_icmp.holds, List.flatMap_cons, List.flatMap_nil, List.length_cons, List.length_append, List.length_nil, List.set_cons_succ, List.set_cons_zero, List.getElem?_cons_succ, List.getElem?_cons_zero, List.replicate, ite_and', ite_or', ite_int', nI_leI, nI_ltI, nI_eq, nI_add, nI_1, pk_mul, nI_clamp, n_in', nI_pos', nI_pos, n_m1e, n_01, n_10, sT_1, sR_1_0, sR_1_1, sR_1_2, sR_1_3, sR_1_4, sR_1_5, sR_1_6, sR_1_7, sR_1_8, sR_1_9, sT_2, sT_3, sT_4, sT_5, sT_6, sT_7, sT_8, sT_9, sT_10, sT_11, sT_12, sT_13, sT_14, sR_2_1, sR_2_2, sR_2_3, sR_2_4, sR_2_5, sR_2_6, sR_2_7, sR_2_8, sR_2_9, sR_2_10, sR_2_11, sR_2_12, sT_15, sT_16, sT_17, sT_18, sT_19, sT_20, sT_21, sT_22, sT_23, sR_15_1, sR_15_2, sR_15_3, sR_15_4, sR_15_5, sR_15_6, sR_15_7, sR_15_8, sT_24, sT_25, sT_26, sT_27, sT_28, sT_29, sR_24_1, sR_24_2, sR_24_3, sR_24_4, sR_24_5, sT_71, sT_72, sR_71_0, sR_71_1, sR_71_2, sR_71_3, sR_71_4, sT_73, sT_74, sT_75, sR_73_0, sR_73_1, sR_73_2, sR_73_3, sR_73_4, sR_73_5, sT_84, sT_85, sT_86, sT_87, sR_84_0, sR_84_1, sR_84_2, sR_84_3, sR_84_4, sR_84_5, sT_88, sT_89, sR_88_0, sT_90, sT_91, sR_90_0, nI_0, hh1, hh2, hh3, hh4, ew, hh5, e6]
  · have g6 : ∀ j, j ≠ 6 → hI h6 73 j = hI h5 73 j := fun j hj => Fr_I f6 fun q => by unfold Wpk at q; omega
    refine ⟨?_, ?_, ?_, ?_, ?_, l6⟩ <;> rw [g6 _ (by decide)] <;> rw [← hh5, ← hh4, ← hh3, ← hh2, ← hh1] <;> simp [hI_setI]
