/-! small ones, and the Desks together -/
theorem Fr_CR {A : AS} {W : Nat → Nat → Prop} {k bl : Nat} {h h' : jHp} (t : CR A k bl h) (f : Fr W h h') (hW : ∀ a j, W a j → ¬ Wdk k a j) : CR A k bl h' := by
  have e : ∀ a j, Wdk k a j → hI h' a j = hI h a j := fun a j q => Fr_I f fun z => hW a j z q
  obtain ⟨t1, t2, t3, t4, t5⟩ := t
  have e7 := e (dA k) 7 (Or.inl ⟨rfl, Or.inl rfl⟩)
  have e8 := e (dA k) 8 (Or.inl ⟨rfl, Or.inr rfl⟩)
  refine ⟨?_, fun q => by rw [e7]; exact t2 q, t3, by rw [e8]; exact t4, fun l hl hb P hP => by rw [e _ _ (Or.inr (Or.inl rfl))]; exact t5 l hl hb P hP⟩
  rcases t1 with q | ⟨q1, q2, q3⟩
  · left; rw [e7]; exact q
  · right
    exact ⟨by rw [e7]; exact q1, fun i hi => by rw [e _ _ (Or.inr (Or.inr (Or.inr rfl)))]; exact q2 i hi, fun P hP => by rw [e _ _ (Or.inr (Or.inr (Or.inl rfl)))]; exact q3 P hP⟩
def DK (A : AS) (ca bl : Nat → Nat) (h : jHp) : Prop := ∀ k, k < 4 → CD0 A k (ca k) h ∧ CR A k (bl k) h
theorem DK_fr {A : AS} {ca bl : Nat → Nat} {W : Nat → Nat → Prop} {h h' : jHp} (d : DK A ca bl h) (f : Fr W h h') (h1 : ∀ a j, W a j → ¬ cC a j) (h2 : ∀ a j k, k < 4 → W a j → ¬ Wdk k a j) : DK A ca bl h' := fun k hk => ⟨CD0_fr hk (d k hk).1 f h1, Fr_CR (d k hk).2 f fun a j q => h2 a j k hk q⟩
theorem Wdk_ne {k m a j : Nat} (hk : k < 4) (hm : m < 4) (hne : k ≠ m) (h : Wdk k a j) : ¬ Wdk m a j := by
  unfold Wdk dA at *
  omega
/-- one Desk made otherwise, the others as they were -/
theorem DK_1 {A : AS} {ca bl : Nat → Nat} {h h' : jHp} {k b : Nat} (hk : k < 4) (d : DK A ca bl h) (f : Fr (Wdk k) h h') (t : CR A k b h') : DK A ca (fun m => if m = k then b else bl m) h' := fun m hm => by
  refine ⟨CD0_fr hm (d m hm).1 f fun a j q => Wdk_cC hk q, ?_⟩
  by_cases e : m = k
  · subst e; simp only [if_true]; exact t
  · simp only [if_neg e]
    exact Fr_CR (d m hm).2 f fun a j q => Wdk_ne hk hm (fun z => e z.symm) q
/-- all Desks' cells -/
def Wds (a j : Nat) : Prop := ∃ k, k < 4 ∧ Wdk k a j
theorem Wds_cC {a j : Nat} (h : Wds a j) : ¬ cC a j := by
  obtain ⟨k, hk, q⟩ := h
  exact Wdk_cC hk q
def Wrd (a j : Nat) : Prop := Wds a j ∨ a = 72
theorem W72_cC {a j : Nat} (h : a = 72) : ¬ cC a j := by
  subst h
  unfold cC isCA
  rintro (q | ⟨c, q1, q2, q3⟩ | q) <;> omega
theorem Wrd_cC {a j : Nat} (h : Wrd a j) : ¬ cC a j := by
  rcases h with q | q
  · exact Wds_cC q
  · exact W72_cC q
theorem Wdk_lt {k a j : Nat} (hk : k < 4) (h : Wdk k a j) : 31 ≤ a ∧ a ≤ 70 := by
  unfold Wdk dA at h
  omega
theorem e_Ma_readyWithoutMore {A : AS} {ca bl : Nat → Nat} {h : jHp} (x : MK A h) (d : DK A ca bl h) : ∃ h' bl', f_Ma_readyWithoutMore [.ref 71] h = some (none, h') ∧ Fr Wrd h h' ∧ MV A (fun _ => 0) h' ∧ DK A ca bl' h' := by
  have hs := x.1.1
  have hL := loop_wp (lb := 1) (lc := 2) (c := lc_Ma_readyWithoutMore_1) (b := lb_Ma_readyWithoutMore_1) (u := lu_Ma_readyWithoutMore_1) 4
    (fun o st => ∃ h' bl', st = ([.ref 71, .int (nI o)], h') ∧ Fr Wrd h h' ∧ DK A ca bl' h' ∧ ∀ k, k < o → hI h' 72 k = nI 0 ∧ (bl' k).testBit 0 = true)
    (fun r => ∃ h' bl', r = (.inl 0, ([.ref 71, .int (nI 4)], h')) ∧ Fr Wrd h h' ∧ DK A ca bl' h' ∧ ∀ k, k < 4 → hI h' 72 k = nI 0 ∧ (bl' k).testBit 0 = true)
    ?_ ?_ ([.ref 71, .int (nI 0)], h) ⟨h, bl, rfl, Fr_refl _ _, d, fun k hk => by omega⟩
  · obtain ⟨r, e, h1, bl1, rfl, f1, d1, c1⟩ := hL
    refine ⟨h1, bl1, ?_, f1, ⟨MK_fr x f1 fun a j q => Wrd_cC q, fun o ho => ⟨Nat.zero_lt_succ 3, (c1 o ho).1, (d1 o ho).2.2.2.2.2 0 (by decide) (c1 o ho).2⟩⟩, d1⟩
    simp only [nI_0] at e
    simp (disch := first | assumption | omega) [f_Ma_readyWithoutMore, body_Ma_readyWithoutMore, j_meth, j_out, j_rok, j_pad, lg_sl, s_seq_w, isN_inl, isN_inr, s_if, jb, x_c, x_iloc, x_aloc, x_lloc, x_bin, x_un, o_add, o_sub, o_mul, o_and, o_or, o_xor, o_shl, o_shr, o_ushr, o_max, o_min, o_i2b, o_i2c, o_i2l, o_l2i, x_fld, j_fget, x_idx, j_aget, x_len, j_alen, x_ofb, x_ite, xs_nil, xs_cons, x_callv, x_calls, s_callv, s_calls, j_recv, j_ret, j_retv, b_cmp, b_and, b_or, b_not, b_ofi, b_ite, b_true, s_skip, s_set, j_ty, j_lset, j_kill, s_inc, s_fput, j_fput, s_fop, s_aput, j_aput, j_nar, s_aop, s_ret, s_retv, s_go, s_pop, x_linc, x_finc, Value.category, if_icmp.holds, List.flatMap_cons, List.flatMap_nil, List.length_cons, List.length_append, List.length_nil, List.set_cons_succ, List.set_cons_zero, List.getElem?_cons_succ, List.getElem?_cons_zero, List.replicate, ite_and', ite_or', ite_int', nI_leI, nI_ltI, nI_eq, nI_add, nI_1, pk_mul, nI_clamp, n_in', nI_pos', nI_pos, n_m1e, n_01, n_10, sT_1, sR_1_0, sR_1_1, sR_1_2, sR_1_3, sR_1_4, sR_1_5, sR_1_6, sR_1_7, sR_1_8, sR_1_9, sT_2, sT_3, sT_4, sT_5, sT_6, sT_7, sT_8, sT_9, sT_10, sT_11, sT_12, sT_13, sT_14, sR_2_1, sR_2_2, sR_2_3, sR_2_4, sR_2_5, sR_2_6, sR_2_7, sR_2_8, sR_2_9, sR_2_10, sR_2_11, sR_2_12, sT_15, sT_16, sT_17, sT_18, sT_19, sT_20, sT_21, sT_22, sT_23, sR_15_1, sR_15_2, sR_15_3, sR_15_4, sR_15_5, sR_15_6, sR_15_7, sR_15_8, sT_24, sT_25, sT_26, sT_27, sT_28, sT_29, sR_24_1, sR_24_2, sR_24_3, sR_24_4, sR_24_5, sT_71, sT_72, sR_71_0, sR_71_1, sR_71_2, sR_71_3, sR_71_4, sT_73, sT_74, sT_75, sR_73_0, sR_73_1, sR_73_2, sR_73_3, sR_73_4, sR_73_5, sT_84, sT_85, sT_86, sT_87, sR_84_0, sR_84_1, sR_84_2, sR_84_3, sR_84_4, sR_84_5, sT_88, sT_89, sR_88_0, sT_90, sT_91, sR_90_0, nI_0, e]
  · rintro o st ho ⟨h1, bl1, rfl, f1, d1, c1⟩
    left
    have f2 : Fr Wrd h1 (hSetI h1 72 o (nI 0)) := Fr_set _ (Or.inr rfl)
    have hs1 := Fr_shape hs f1
    have hs2 := Fr_shape hs1 f2
    have x2 : MK A (hSetI h1 72 o (nI 0)) := MK_fr x (Fr_trans f1 f2) fun a j q => Wrd_cC q
    have d2 : DK A ca bl1 (hSetI h1 72 o (nI 0)) := DK_fr (W := fun a _ => a = 72) d1 (Fr_set _ rfl) (fun a j q => W72_cC q) fun a j k hk q z => by
      have := Wdk_lt hk z
      omega
    have g72 : hI (hSetI h1 72 o (nI 0)) 72 o = nI 0 := by rw [hI_setI, if_pos ⟨rfl, rfl⟩]
    have gk : ∀ k, k < o → hI (hSetI h1 72 o (nI 0)) 72 k = nI 0 := fun k hk => by rw [hI_setI, if_neg (by omega)]; exact (c1 k hk).1
    generalize hh2 : hSetI h1 72 o (nI 0) = h2 at *
    obtain ⟨h3, e3, f3, t3⟩ := e_D_ready x2.1 ho (d2 o ho).1 (l := 0) (by decide) (d2 o ho).2
    have d3 := DK_1 ho d2 f3 t3
    refine ⟨([.ref 71, .int (nI (o + 1))], h3), ?_, h3, _, rfl, Fr_trans (Fr_trans f1 f2) (Fr_mono f3 fun a j q => Or.inl ⟨o, ho, q⟩), d3, fun k hk => ?_⟩
    · obtain ⟨t1, -, -, -, -, -, -, -, -, r30⟩ := DSh_of hs2 ho
      have t30 := sT_30 hs2
      have n0 : dA o ≠ 0 := by unfold dA; omega
      clear d1 c1 d2 d3 f1 f2 f3 x2 t3 gk
      generalize dA o = D at *
      have hh2' : hSetI h1 72 o 0 = h2 := by rw [← hh2, nI_0]
      simp only [nI_0] at e3
      simp (disch := first | assumption | omega) [lstp, lc_Ma_readyWithoutMore_1, lb_Ma_readyWithoutMore_1, lu_Ma_readyWithoutMore_1, j_meth, j_out, j_rok, j_pad, lg_sl, s_seq_w, isN_inl, isN_inr, s_if, jb, x_c, x_iloc, x_aloc, x_lloc, x_bin, x_un, o_add, o_sub, o_mul, o_and, o_or, o_xor, o_shl, o_shr, o_ushr, o_max, o_min, o_i2b, o_i2c, o_i2l, o_l2i, x_fld, j_fget, x_idx, j_aget, x_len, j_alen, x_ofb, x_ite, xs_nil, xs_cons, x_callv, x_calls, s_callv, s_calls, j_recv, j_ret, j_retv, b_cmp, b_and, b_or, b_not, b_ofi, b_ite, b_true, s_skip, s_set, j_ty, j_lset, j_kill, s_inc, s_fput, j_fput, s_fop, s_aput, j_aput, j_nar, s_aop, s_ret, s_retv, s_go, s_pop, x_linc, x_finc, Value.category, if_icmp.holds, List.flatMap_cons, List.flatMap_nil, List.length_cons, List.length_append, List.length_nil, List.set_cons_succ, List.set_cons_zero, List.getElem?_cons_succ, List.getElem?_cons_zero, List.replicate, ite_and', ite_or', ite_int', nI_leI, nI_ltI, nI_eq, nI_add, nI_1, pk_mul, nI_clamp, n_in', nI_pos', nI_pos, n_m1e, n_01, n_10, sT_1, sR_1_0, sR_1_1, sR_1_2, sR_1_3, sR_1_4, sR_1_5, sR_1_6, sR_1_7, sR_1_8, sR_1_9, sT_2, sT_3, sT_4, sT_5, sT_6, sT_7, sT_8, sT_9, sT_10, sT_11, sT_12, sT_13, sT_14, sR_2_1, sR_2_2, sR_2_3, sR_2_4, sR_2_5, sR_2_6, sR_2_7, sR_2_8, sR_2_9, sR_2_10, sR_2_11, sR_2_12, sT_15, sT_16, sT_17, sT_18, sT_19, sT_20, sT_21, sT_22, sT_23, sR_15_1, sR_15_2, sR_15_3, sR_15_4, sR_15_5, sR_15_6, sR_15_7, sR_15_8, sT_24, sT_25, sT_26, sT_27, sT_28, sT_29, sR_24_1, sR_24_2, sR_24_3, sR_24_4, sR_24_5, sT_71, sT_72, sR_71_0, sR_71_1, sR_71_2, sR_71_3, sR_71_4, sT_73, sT_74, sT_75, sR_73_0, sR_73_1, sR_73_2, sR_73_3, sR_73_4, sR_73_5, sT_84, sT_85, sT_86, sT_87, sR_84_0, sR_84_1, sR_84_2, sR_84_3, sR_84_4, sR_84_5, sT_88, sT_89, sR_88_0, sT_90, sT_91, sR_90_0, ho, nI_0, hh2', t30, r30, n0, t1, e3]
    · refine ⟨?_, ?_⟩
      · rw [Fr_I f3 fun q => by have := Wdk_lt ho q; omega]
        by_cases e : k = o
        · rw [e]; exact g72
        · exact gk k (by omega)
      · by_cases e : k = o
        · subst e; simp [Nat.testBit_or]
        · simp only [if_neg e]
          exact (c1 k (by omega)).2
  · rintro st ⟨h1, bl1, rfl, f1, d1, c1⟩
    refine ⟨_, ?_, h1, bl1, rfl, f1, d1, c1⟩
    have hs1 := Fr_shape hs f1
    simp (disch := first | assumption | omega) [lstp, lc_Ma_readyWithoutMore_1, lb_Ma_readyWithoutMore_1, lu_Ma_readyWithoutMore_1, j_meth, j_out, j_rok, j_pad, lg_sl, s_seq_w, isN_inl, isN_inr, s_if, jb, x_c, x_iloc, x_aloc, x_lloc, x_bin, x_un, o_add, o_sub, o_mul, o_and, o_or, o_xor, o_shl, o_shr, o_ushr, o_max, o_min, o_i2b, o_i2c, o_i2l, o_l2i, x_fld, j_fget, x_idx, j_aget, x_len, j_alen, x_ofb, x_ite, xs_nil, xs_cons, x_callv, x_calls, s_callv, s_calls, j_recv, j_ret, j_retv, b_cmp, b_and, b_or, b_not, b_ofi, b_ite, b_true, s_skip, s_set, j_ty, j_lset, j_kill, s_inc, s_fput, j_fput, s_fop, s_aput, j_aput, j_nar, s_aop, s_ret, s_retv, s_go, s_pop, x_linc, x_finc, Value.category, if_icmp.holds, List.flatMap_cons, List.flatMap_nil, List.length_cons, List.length_append, List.length_nil, List.set_cons_succ, List.set_cons_zero, List.getElem?_cons_succ, List.getElem?_cons_zero, List.replicate, ite_and', ite_or', ite_int', nI_leI, nI_ltI, nI_eq, nI_add, nI_1, pk_mul, nI_clamp, n_in', nI_pos', nI_pos, n_m1e, n_01, n_10, sT_1, sR_1_0, sR_1_1, sR_1_2, sR_1_3, sR_1_4, sR_1_5, sR_1_6, sR_1_7, sR_1_8, sR_1_9, sT_2, sT_3, sT_4, sT_5, sT_6, sT_7, sT_8, sT_9, sT_10, sT_11, sT_12, sT_13, sT_14, sR_2_1, sR_2_2, sR_2_3, sR_2_4, sR_2_5, sR_2_6, sR_2_7, sR_2_8, sR_2_9, sR_2_10, sR_2_11, sR_2_12, sT_15, sT_16, sT_17, sT_18, sT_19, sT_20, sT_21, sT_22, sT_23, sR_15_1, sR_15_2, sR_15_3, sR_15_4, sR_15_5, sR_15_6, sR_15_7, sR_15_8, sT_24, sT_25, sT_26, sT_27, sT_28, sT_29, sR_24_1, sR_24_2, sR_24_3, sR_24_4, sR_24_5, sT_71, sT_72, sR_71_0, sR_71_1, sR_71_2, sR_71_3, sR_71_4, sT_73, sT_74, sT_75, sR_73_0, sR_73_1, sR_73_2, sR_73_3, sR_73_4, sR_73_5, sT_84, sT_85, sT_86, sT_87, sR_84_0, sR_84_1, sR_84_2, sR_84_3, sR_84_4, sR_84_5, sT_88, sT_89, sR_88_0, sT_90, sT_91, sR_90_0]
theorem e_B_hasSet {A : AS} {h : jHp} (hs : Shape h) (w : WF A) (c : CB A h) (x : Int32) : f_B_hasSet [.ref 2, .int x] h = some (some (.int (if j_in x (2 ^ aNb A) then 1 else 0)), h) := by
  have hn := w.2.2.1.1
  have hp := p20 w
  have c0 := c.1
  rcases n_of x with ⟨k, hk, rfl⟩ | hx
  · rw [n_in hk]
    have h0 := nI_pos' hk
    have hu := n_ushr (a := k) (by omega) (k := aNb A) (by omega)
    have hq : (nI (k / 2 ^ aNb A) = 0) = (k < 2 ^ aNb A) := by
      rw [propext (n_eq0 (Nat.lt_of_le_of_lt (Nat.div_le_self _ _) (by omega)))]
      have := Nat.two_pow_pos (aNb A)
      rw [Nat.div_eq_zero_iff]
      apply propext
      constructor
      · rintro (z | z)
        · omega
        · exact z
      · exact Or.inr
    by_cases q : k < 2 ^ aNb A
    · simp (disch := first | assumption | omega) [f_B_hasSet, body_B_hasSet, j_meth, j_out, j_rok, j_pad, lg_sl, s_seq_w, isN_inl, isN_inr, s_if, jb, x_c, x_iloc, x_aloc, x_lloc, x_bin, x_un, o_add, o_sub, o_mul, o_and, o_or, o_xor, o_shl, o_shr, o_ushr, o_max, o_min, o_i2b, o_i2c, o_i2l, o_l2i, x_fld, j_fget, x_idx, j_aget, x_len, j_alen, x_ofb, x_ite, xs_nil, xs_cons, x_callv, x_calls, s_callv, s_calls, j_recv, j_ret, j_retv, b_cmp, b_and, b_or, b_not, b_ofi, b_ite, b_true, s_skip, s_set, j_ty, j_lset, j_kill, s_inc, s_fput, j_fput, s_fop, s_aput, j_aput, j_nar, s_aop, s_ret, s_retv, s_go, s_pop, x_linc, x_finc, Value.category, if_icmp.holds, List.flatMap_cons, List.flatMap_nil, List.length_cons, List.length_append, List.length_nil, List.set_cons_succ, List.set_cons_zero, List.getElem?_cons_succ, List.getElem?_cons_zero, List.replicate, ite_and', ite_or', ite_int', nI_leI, nI_ltI, nI_eq, nI_add, nI_1, pk_mul, nI_clamp, n_in', nI_pos', nI_pos, n_m1e, n_01, n_10, sT_1, sR_1_0, sR_1_1, sR_1_2, sR_1_3, sR_1_4, sR_1_5, sR_1_6, sR_1_7, sR_1_8, sR_1_9, sT_2, sT_3, sT_4, sT_5, sT_6, sT_7, sT_8, sT_9, sT_10, sT_11, sT_12, sT_13, sT_14, sR_2_1, sR_2_2, sR_2_3, sR_2_4, sR_2_5, sR_2_6, sR_2_7, sR_2_8, sR_2_9, sR_2_10, sR_2_11, sR_2_12, sT_15, sT_16, sT_17, sT_18, sT_19, sT_20, sT_21, sT_22, sT_23, sR_15_1, sR_15_2, sR_15_3, sR_15_4, sR_15_5, sR_15_6, sR_15_7, sR_15_8, sT_24, sT_25, sT_26, sT_27, sT_28, sT_29, sR_24_1, sR_24_2, sR_24_3, sR_24_4, sR_24_5, sT_71, sT_72, sR_71_0, sR_71_1, sR_71_2, sR_71_3, sR_71_4, sT_73, sT_74, sT_75, sR_73_0, sR_73_1, sR_73_2, sR_73_3, sR_73_4, sR_73_5, sT_84, sT_85, sT_86, sT_87, sR_84_0, sR_84_1, sR_84_2, sR_84_3, sR_84_4, sR_84_5, sT_88, sT_89, sR_88_0, sT_90, sT_91, sR_90_0, h0, c0, hu, hq, q]
    · simp (disch := first | assumption | omega) [f_B_hasSet, body_B_hasSet, j_meth, j_out, j_rok, j_pad, lg_sl, s_seq_w, isN_inl, isN_inr, s_if, jb, x_c, x_iloc, x_aloc, x_lloc, x_bin, x_un, o_add, o_sub, o_mul, o_and, o_or, o_xor, o_shl, o_shr, o_ushr, o_max, o_min, o_i2b, o_i2c, o_i2l, o_l2i, x_fld, j_fget, x_idx, j_aget, x_len, j_alen, x_ofb, x_ite, xs_nil, xs_cons, x_callv, x_calls, s_callv, s_calls, j_recv, j_ret, j_retv, b_cmp, b_and, b_or, b_not, b_ofi, b_ite, b_true, s_skip, s_set, j_ty, j_lset, j_kill, s_inc, s_fput, j_fput, s_fop, s_aput, j_aput, j_nar, s_aop, s_ret, s_retv, s_go, s_pop, x_linc, x_finc, Value.category, if_icmp.holds, List.flatMap_cons, List.flatMap_nil, List.length_cons, List.length_append, List.length_nil, List.set_cons_succ, List.set_cons_zero, List.getElem?_cons_succ, List.getElem?_cons_zero, List.replicate, ite_and', ite_or', ite_int', nI_leI, nI_ltI, nI_eq, nI_add, nI_1, pk_mul, nI_clamp, n_in', nI_pos', nI_pos, n_m1e, n_01, n_10, sT_1, sR_1_0, sR_1_1, sR_1_2, sR_1_3, sR_1_4, sR_1_5, sR_1_6, sR_1_7, sR_1_8, sR_1_9, sT_2, sT_3, sT_4, sT_5, sT_6, sT_7, sT_8, sT_9, sT_10, sT_11, sT_12, sT_13, sT_14, sR_2_1, sR_2_2, sR_2_3, sR_2_4, sR_2_5, sR_2_6, sR_2_7, sR_2_8, sR_2_9, sR_2_10, sR_2_11, sR_2_12, sT_15, sT_16, sT_17, sT_18, sT_19, sT_20, sT_21, sT_22, sT_23, sR_15_1, sR_15_2, sR_15_3, sR_15_4, sR_15_5, sR_15_6, sR_15_7, sR_15_8, sT_24, sT_25, sT_26, sT_27, sT_28, sT_29, sR_24_1, sR_24_2, sR_24_3, sR_24_4, sR_24_5, sT_71, sT_72, sR_71_0, sR_71_1, sR_71_2, sR_71_3, sR_71_4, sT_73, sT_74, sT_75, sR_73_0, sR_73_1, sR_73_2, sR_73_3, sR_73_4, sR_73_5, sT_84, sT_85, sT_86, sT_87, sR_84_0, sR_84_1, sR_84_2, sR_84_3, sR_84_4, sR_84_5, sT_88, sT_89, sR_88_0, sT_90, sT_91, sR_90_0, h0, c0, hu, hq, q]
  · have h0 : ¬ 0 ≤ x := Int32.not_le.mpr hx
    have hj : j_in x (2 ^ aNb A) = false := by simp [j_in, h0]
    rw [hj]
    simp (disch := first | assumption | omega) [f_B_hasSet, body_B_hasSet, j_meth, j_out, j_rok, j_pad, lg_sl, s_seq_w, isN_inl, isN_inr, s_if, jb, x_c, x_iloc, x_aloc, x_lloc, x_bin, x_un, o_add, o_sub, o_mul, o_and, o_or, o_xor, o_shl, o_shr, o_ushr, o_max, o_min, o_i2b, o_i2c, o_i2l, o_l2i, x_fld, j_fget, x_idx, j_aget, x_len, j_alen, x_ofb, x_ite, xs_nil, xs_cons, x_callv, x_calls, s_callv, s_calls, j_recv, j_ret, j_retv, b_cmp, b_and, b_or, b_not, b_ofi, b_ite, b_true, s_skip, s_set, j_ty, j_lset, j_kill, s_inc, s_fput, j_fput, s_fop, s_aput, j_aput, j_nar, s_aop, s_ret, s_retv, s_go, s_pop, x_linc, x_finc, Value.category, if_icmp.holds, List.flatMap_cons, List.flatMap_nil, List.length_cons, List.length_append, List.length_nil, List.set_cons_succ, List.set_cons_zero, List.getElem?_cons_succ, List.getElem?_cons_zero, List.replicate, ite_and', ite_or', ite_int', nI_leI, nI_ltI, nI_eq, nI_add, nI_1, pk_mul, nI_clamp, n_in', nI_pos', nI_pos, n_m1e, n_01, n_10, sT_1, sR_1_0, sR_1_1, sR_1_2, sR_1_3, sR_1_4, sR_1_5, sR_1_6, sR_1_7, sR_1_8, sR_1_9, sT_2, sT_3, sT_4, sT_5, sT_6, sT_7, sT_8, sT_9, sT_10, sT_11, sT_12, sT_13, sT_14, sR_2_1, sR_2_2, sR_2_3, sR_2_4, sR_2_5, sR_2_6, sR_2_7, sR_2_8, sR_2_9, sR_2_10, sR_2_11, sR_2_12, sT_15, sT_16, sT_17, sT_18, sT_19, sT_20, sT_21, sT_22, sT_23, sR_15_1, sR_15_2, sR_15_3, sR_15_4, sR_15_5, sR_15_6, sR_15_7, sR_15_8, sT_24, sT_25, sT_26, sT_27, sT_28, sT_29, sR_24_1, sR_24_2, sR_24_3, sR_24_4, sR_24_5, sT_71, sT_72, sR_71_0, sR_71_1, sR_71_2, sR_71_3, sR_71_4, sT_73, sT_74, sT_75, sR_73_0, sR_73_1, sR_73_2, sR_73_3, sR_73_4, sR_73_5, sT_84, sT_85, sT_86, sT_87, sR_84_0, sR_84_1, sR_84_2, sR_84_3, sR_84_4, sR_84_5, sT_88, sT_89, sR_88_0, sT_90, sT_91, sR_90_0, h0, hx]
theorem e_B_setOfPart {A : AS} {h : jHp} (x : CX A h) {f P : Nat} (hf : f < 4) (hP : P < 256) : f_B_setOfPart [.ref 2, .int (nI f), .int (nI P)] h = some (some (.int (nI (pSet A f P))), h) := by
  obtain ⟨hs, w, cb, -⟩ := x
  have hX : P * 2 ^ (8 * f) < 2 ^ 32 := by
    have : f = 0 ∨ f = 1 ∨ f = 2 ∨ f = 3 := by omega
    rcases this with rfl | rfl | rfl | rfl <;> omega
  have es := e_B_setOf hs w cb hX
  have hsh := n_shl P (k := 8 * f) (by omega)
  have hc : f * 8 = 8 * f := Nat.mul_comm _ _
  have hd : stM A (P * 2 ^ (8 * f)) = pSet A f P := rfl
  rw [hd] at es
  simp (disch := first | assumption | omega) [f_B_setOfPart, body_B_setOfPart, j_meth, j_out, j_rok, j_pad, lg_sl, s_seq_w, isN_inl, isN_inr, s_if, jb, x_c, x_iloc, x_aloc, x_lloc, x_bin, x_un, o_add, o_sub, o_mul, o_and, o_or, o_xor, o_shl, o_shr, o_ushr, o_max, o_min, o_i2b, o_i2c, o_i2l, o_l2i, x_fld, j_fget, x_idx, j_aget, x_len, j_alen, x_ofb, x_ite, xs_nil, xs_cons, x_callv, x_calls, s_callv, s_calls, j_recv, j_ret, j_retv, b_cmp, b_and, b_or, b_not, b_ofi, b_ite, b_true, s_skip, s_set, j_ty, j_lset, j_kill, s_inc, s_fput, j_fput, s_fop, s_aput, j_aput, j_nar, s_aop, s_ret, s_retv, s_go, s_pop, x_linc, x_finc, Value.category, if_icmp.holds, List.flatMap_cons, List.flatMap_nil, List.length_cons, List.length_append, List.length_nil, List.set_cons_succ, List.set_cons_zero, List.getElem?_cons_succ, List.getElem?_cons_zero, List.replicate, ite_and', ite_or', ite_int', nI_leI, nI_ltI, nI_eq, nI_add, nI_1, pk_mul, nI_clamp, n_in', nI_pos', nI_pos, n_m1e, n_01, n_10, sT_1, sR_1_0, sR_1_1, sR_1_2, sR_1_3, sR_1_4, sR_1_5, sR_1_6, sR_1_7, sR_1_8, sR_1_9, sT_2, sT_3, sT_4, sT_5, sT_6, sT_7, sT_8, sT_9, sT_10, sT_11, sT_12, sT_13, sT_14, sR_2_1, sR_2_2, sR_2_3, sR_2_4, sR_2_5, sR_2_6, sR_2_7, sR_2_8, sR_2_9, sR_2_10, sR_2_11, sR_2_12, sT_15, sT_16, sT_17, sT_18, sT_19, sT_20, sT_21, sT_22, sT_23, sR_15_1, sR_15_2, sR_15_3, sR_15_4, sR_15_5, sR_15_6, sR_15_7, sR_15_8, sT_24, sT_25, sT_26, sT_27, sT_28, sT_29, sR_24_1, sR_24_2, sR_24_3, sR_24_4, sR_24_5, sT_71, sT_72, sR_71_0, sR_71_1, sR_71_2, sR_71_3, sR_71_4, sT_73, sT_74, sT_75, sR_73_0, sR_73_1, sR_73_2, sR_73_3, sR_73_4, sR_73_5, sT_84, sT_85, sT_86, sT_87, sR_84_0, sR_84_1, sR_84_2, sR_84_3, sR_84_4, sR_84_5, sT_88, sT_89, sR_88_0, sT_90, sT_91, sR_90_0, hc, hsh, es]
/-- the ROW of the class -/
def CRw (rw : List Int32) (h : jHp) : Prop := rw.length ≤ 40 ∧ hI h 90 1 = nI rw.length ∧ ∀ i, i < rw.length → hI h 91 i = rw.getD i 0
def W90 (a j : Nat) : Prop := (a = 90 ∧ j = 1) ∨ a = 91
theorem e_R_empty {h : jHp} (hs : Shape h) : ∃ h', f_R_empty [.ref 90] h = some (none, h') ∧ Fr W90 h h' ∧ CRw [] h' := by
  refine ⟨hSetI h 90 1 (nI 0), ?_, Fr_set _ (Or.inl ⟨rfl, rfl⟩), by decide, by rw [hI_setI, if_pos ⟨rfl, rfl⟩]; rfl, fun i hi => by simp at hi⟩
  simp (disch := first | assumption | omega) [f_R_empty, body_R_empty, j_meth, j_out, j_rok, j_pad, lg_sl, s_seq_w, isN_inl, isN_inr, s_if, jb, x_c, x_iloc, x_aloc, x_lloc, x_bin, x_un, o_add, o_sub, o_mul, o_and, o_or, o_xor, o_shl, o_shr, o_ushr, o_max, o_min, o_i2b, o_i2c, o_i2l, o_l2i, x_fld, j_fget, x_idx, j_aget, x_len, j_alen, x_ofb, x_ite, xs_nil, xs_cons, x_callv, x_calls, s_callv, s_calls, j_recv, j_ret, j_retv, b_cmp, b_and, b_or, b_not, b_ofi, b_ite, b_true, s_skip, s_set, j_ty, j_lset, j_kill, s_inc, s_fput, j_fput, s_fop, s_aput, j_aput, j_nar, s_aop, s_ret, s_retv, s_go, s_pop, x_linc, x_finc, Value.category, if_icmp.holds, List.flatMap_cons, List.flatMap_nil, List.length_cons, List.length_append, List.length_nil, List.set_cons_succ, List.set_cons_zero, List.getElem?_cons_succ, List.getElem?_cons_zero, List.replicate, ite_and', ite_or', ite_int', nI_leI, nI_ltI, nI_eq, nI_add, nI_1, pk_mul, nI_clamp, n_in', nI_pos', nI_pos, n_m1e, n_01, n_10, sT_1, sR_1_0, sR_1_1, sR_1_2, sR_1_3, sR_1_4, sR_1_5, sR_1_6, sR_1_7, sR_1_8, sR_1_9, sT_2, sT_3, sT_4, sT_5, sT_6, sT_7, sT_8, sT_9, sT_10, sT_11, sT_12, sT_13, sT_14, sR_2_1, sR_2_2, sR_2_3, sR_2_4, sR_2_5, sR_2_6, sR_2_7, sR_2_8, sR_2_9, sR_2_10, sR_2_11, sR_2_12, sT_15, sT_16, sT_17, sT_18, sT_19, sT_20, sT_21, sT_22, sT_23, sR_15_1, sR_15_2, sR_15_3, sR_15_4, sR_15_5, sR_15_6, sR_15_7, sR_15_8, sT_24, sT_25, sT_26, sT_27, sT_28, sT_29, sR_24_1, sR_24_2, sR_24_3, sR_24_4, sR_24_5, sT_71, sT_72, sR_71_0, sR_71_1, sR_71_2, sR_71_3, sR_71_4, sT_73, sT_74, sT_75, sR_73_0, sR_73_1, sR_73_2, sR_73_3, sR_73_4, sR_73_5, sT_84, sT_85, sT_86, sT_87, sR_84_0, sR_84_1, sR_84_2, sR_84_3, sR_84_4, sR_84_5, sT_88, sT_89, sR_88_0, sT_90, sT_91, sR_90_0]
theorem e_R_add {rw : List Int32} {h : jHp} (hs : Shape h) (r : CRw rw h) (hl : rw.length < 40) (v : Int32) : ∃ h', f_R_add [.ref 90, .int v] h = some (none, h') ∧ Fr W90 h h' ∧ CRw (rw ++ [v]) h' := by
  obtain ⟨r1, r2, r3⟩ := r
  refine ⟨hSetI (hSetI h 91 rw.length v) 90 1 (nI (rw.length + 1)), ?_, Fr_trans (Fr_set _ (Or.inr rfl)) (Fr_set _ (Or.inl ⟨rfl, rfl⟩)), by simp; omega, by rw [hI_setI, if_pos ⟨rfl, rfl⟩]; simp, fun i hi => ?_⟩
  · have hs1 : Shape (hSetI h 91 rw.length v) := hs
    have g : hI (hSetI h 91 rw.length v) 90 1 = nI rw.length := by rw [hI_setI, if_neg (by omega)]; exact r2
    generalize hh : hSetI h 91 rw.length v = h1 at *
    simp (disch := first | assumption | omega) [f_R_add, body_R_add, j_meth, j_out, j_rok, j_pad, lg_sl, s_seq_w, isN_inl, isN_inr, s_if, jb, x_c, x_iloc, x_aloc, x_lloc, x_bin, x_un, o_add, o_sub, o_mul, o_and, o_or, o_xor, o_shl, o_shr, o_ushr, o_max, o_min, o_i2b, o_i2c, o_i2l, o_l2i, x_fld, j_fget, x_idx, j_aget, x_len, j_alen, x_ofb, x_ite, xs_nil, xs_cons, x_callv, x_calls, s_callv, s_calls, j_recv, j_ret, j_retv, b_cmp, b_and, b_or, b_not, b_ofi, b_ite, b_true, s_skip, s_set, j_ty, j_lset, j_kill, s_inc, s_fput, j_fput, s_fop, s_aput, j_aput, j_nar, s_aop, s_ret, s_retv, s_go, s_pop, x_linc, x_finc, Value.category, if_icmp.holds, List.flatMap_cons, List.flatMap_nil, List.length_cons, List.length_append, List.length_nil, List.set_cons_succ, List.set_cons_zero, List.getElem?_cons_succ, List.getElem?_cons_zero, List.replicate, ite_and', ite_or', ite_int', nI_leI, nI_ltI, nI_eq, nI_add, nI_1, pk_mul, nI_clamp, n_in', nI_pos', nI_pos, n_m1e, n_01, n_10, sT_1, sR_1_0, sR_1_1, sR_1_2, sR_1_3, sR_1_4, sR_1_5, sR_1_6, sR_1_7, sR_1_8, sR_1_9, sT_2, sT_3, sT_4, sT_5, sT_6, sT_7, sT_8, sT_9, sT_10, sT_11, sT_12, sT_13, sT_14, sR_2_1, sR_2_2, sR_2_3, sR_2_4, sR_2_5, sR_2_6, sR_2_7, sR_2_8, sR_2_9, sR_2_10, sR_2_11, sR_2_12, sT_15, sT_16, sT_17, sT_18, sT_19, sT_20, sT_21, sT_22, sT_23, sR_15_1, sR_15_2, sR_15_3, sR_15_4, sR_15_5, sR_15_6, sR_15_7, sR_15_8, sT_24, sT_25, sT_26, sT_27, sT_28, sT_29, sR_24_1, sR_24_2, sR_24_3, sR_24_4, sR_24_5, sT_71, sT_72, sR_71_0, sR_71_1, sR_71_2, sR_71_3, sR_71_4, sT_73, sT_74, sT_75, sR_73_0, sR_73_1, sR_73_2, sR_73_3, sR_73_4, sR_73_5, sT_84, sT_85, sT_86, sT_87, sR_84_0, sR_84_1, sR_84_2, sR_84_3, sR_84_4, sR_84_5, sT_88, sT_89, sR_88_0, sT_90, sT_91, sR_90_0, r2, hl, hh, g]
  · rw [hI_setI, if_neg (by omega), hI_setI]
    simp only [List.length_append, List.length_cons, List.length_nil] at hi
    by_cases e : i = rw.length
    · rw [if_pos ⟨rfl, e⟩, e]
      simp
    · rw [if_neg (fun q => e q.2), r3 i (by omega)]
      rw [List.getD_eq_getElem?_getD, List.getD_eq_getElem?_getD, List.getElem?_append_left (by omega)]
theorem e_R_full {rw : List Int32} {h : jHp} (hs : Shape h) (r : CRw rw h) (hl : rw.length = 40) (v : Int32) : f_R_add [.ref 90, .int v] h = some (none, h) := by
  obtain ⟨r1, r2, r3⟩ := r
  rw [hl] at r2
  simp (disch := first | assumption | omega) [f_R_add, body_R_add, j_meth, j_out, j_rok, j_pad, lg_sl, s_seq_w, isN_inl, isN_inr, s_if, jb, x_c, x_iloc, x_aloc, x_lloc, x_bin, x_un, o_add, o_sub, o_mul, o_and, o_or, o_xor, o_shl, o_shr, o_ushr, o_max, o_min, o_i2b, o_i2c, o_i2l, o_l2i, x_fld, j_fget, x_idx, j_aget, x_len, j_alen, x_ofb, x_ite, xs_nil, xs_cons, x_callv, x_calls, s_callv, s_calls, j_recv, j_ret, j_retv, b_cmp, b_and, b_or, b_not, b_ofi, b_ite, b_true, s_skip, s_set, j_ty, j_lset, j_kill, s_inc, s_fput, j_fput, s_fop, s_aput, j_aput, j_nar, s_aop, s_ret, s_retv, s_go, s_pop, x_linc, x_finc, Value.category, if_icmp.holds, List.flatMap_cons, List.flatMap_nil, List.length_cons, List.length_append, List.length_nil, List.set_cons_succ, List.set_cons_zero, List.getElem?_cons_succ, List.getElem?_cons_zero, List.replicate, ite_and', ite_or', ite_int', nI_leI, nI_ltI, nI_eq, nI_add, nI_1, pk_mul, nI_clamp, n_in', nI_pos', nI_pos, n_m1e, n_01, n_10, sT_1, sR_1_0, sR_1_1, sR_1_2, sR_1_3, sR_1_4, sR_1_5, sR_1_6, sR_1_7, sR_1_8, sR_1_9, sT_2, sT_3, sT_4, sT_5, sT_6, sT_7, sT_8, sT_9, sT_10, sT_11, sT_12, sT_13, sT_14, sR_2_1, sR_2_2, sR_2_3, sR_2_4, sR_2_5, sR_2_6, sR_2_7, sR_2_8, sR_2_9, sR_2_10, sR_2_11, sR_2_12, sT_15, sT_16, sT_17, sT_18, sT_19, sT_20, sT_21, sT_22, sT_23, sR_15_1, sR_15_2, sR_15_3, sR_15_4, sR_15_5, sR_15_6, sR_15_7, sR_15_8, sT_24, sT_25, sT_26, sT_27, sT_28, sT_29, sR_24_1, sR_24_2, sR_24_3, sR_24_4, sR_24_5, sT_71, sT_72, sR_71_0, sR_71_1, sR_71_2, sR_71_3, sR_71_4, sT_73, sT_74, sT_75, sR_73_0, sR_73_1, sR_73_2, sR_73_3, sR_73_4, sR_73_5, sT_84, sT_85, sT_86, sT_87, sR_84_0, sR_84_1, sR_84_2, sR_84_3, sR_84_4, sR_84_5, sT_88, sT_89, sR_88_0, sT_90, sT_91, sR_90_0, r2]
theorem CRw_fr {W : Nat → Nat → Prop} {rw : List Int32} {h h' : jHp} (r : CRw rw h) (f : Fr W h h') (hW : ∀ a j, W a j → a ≠ 90 ∧ a ≠ 91) : CRw rw h' := ⟨r.1, by rw [Fr_I f fun q => (hW _ _ q).1 rfl]; exact r.2.1, fun i hi => by rw [Fr_I f fun q => (hW _ _ q).2 rfl]; exact r.2.2 i hi⟩
