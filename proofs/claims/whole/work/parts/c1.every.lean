/-! the Walk: EVERY -/
def arE (B : AS) (S : Nat) (l : List Nat) : Bool × List Nat := (false, if sStd B S then l ++ [S] else l)
theorem vst_E (B : AS) : ∀ (L l : List Nat), vst (arE B) L l = (false, l ++ L.filter (sStd B)) := by
  intro L
  induction L with
  | nil => intro l; simp [vst]
  | cons S L ih =>
    intro l
    simp only [vst, arE, Bool.false_eq_true, if_false]
    have := ih (if sStd B S then l ++ [S] else l)
    rw [this]
    cases hs : sStd B S with
    | true => simp [List.filter_cons, hs]
    | false => simp [List.filter_cons, hs]
def InE (A : AS) (h0 : jHp) (l : List Nat) (h : jHp) : Prop := MV A (fun _ => 0) h ∧ WLv A h ∧ hI h 73 7 = 0 ∧ FI h0 l h
theorem WLv_g {A : AS} {W U : Nat → Nat → Prop} {h h' : jHp} (hs : Shape h) (x : WLv A h) (f : FG W U h h') (hW : ∀ a j, W a j → a ≠ 74 ∧ a ≠ 75 ∧ (a = 73 → j ≠ 6)) : WLv A h' := by
  obtain ⟨h1, h2, h3⟩ := x
  refine ⟨?_, fun i hi => ?_, fun b hb => ?_⟩
  · rw [FG_I hs f (by omega) fun q => (hW _ _ q).2.2 rfl rfl]; exact h1
  · rw [FG_I hs f (by omega) fun q => (hW _ _ q).1 rfl]; exact h2 i hi
  · rw [FG_I hs f (by omega) fun q => (hW _ _ q).2.1 rfl]; exact h3 b hb
theorem e_W_arrE {A : AS} {h0 h : jHp} {l : List Nat} {S : Nat} (x0 : MV A (fun _ => 0) h0) (l0 : WLv A h0) (hg7 : hI h0 73 7 = 0) (hg : isG (hR h0 73 11)) (hra : hR h0 77 8 < hN h0) (oS : okS A S) (i : InE A h0 l h) (hl : sStd A S = true → l.length < 12288) :
    ∃ h', f_W_arrive [.ref 73, .int (nI S), .int (nI (slM A S)), .int (nI (slM A (sWt A S)))] h = some (some (.int 0), h') ∧ InE A h0 (arE A S l).2 h' := by
  obtain ⟨x, lv, g7, fi⟩ := i
  have hs := x.1.1.1
  have hA : aMv A (fun _ => 0) = A := aMv_0 A _ fun _ => rfl
  have e0 := e_W_arr0 x oS (nI (slM A (sWt A S)))
  rw [hA] at e0
  have e1 : wa_1 ([.ref 73, .int (nI S), .int (nI (slM A S)), .int (nI (slM A (sWt A S)))], h) = some (.inl 0, ([.ref 73, .int (nI S), .int (nI (slM A S)), .int (nI (slM A (sWt A S)))], h)) := by
    generalize slM A (sWt A S) = s2 at *
    generalize slM A S = s1 at *
    have h01 : ((0 : Int32) = nI 1) = False := by decide
    simp (disch := first | assumption | omega) [wa_1, j_meth, j_out, j_rok, j_pad, lg_sl, s_seq_w, isN_inl, isN_inr, s_if, jb, x_c, x_iloc, x_aloc, x_lloc, x_bin, x_un, o_add, o_sub, o_mul, o_and, o_or, o_xor, o_shl, o_shr, o_ushr, o_max, o_min, o_i2b, o_i2c, o_i2l, o_l2i, x_fld, j_fget, x_idx, j_aget, x_len, j_alen, x_ofb, x_ite, xs_nil, xs_cons, x_callv, x_calls, s_callv, s_calls, j_recv, j_ret, j_retv, b_cmp, b_and, b_or, b_not, b_ofi, b_ite, b_true, s_skip, s_set, j_ty, j_lset, j_kill, s_inc, s_fput, j_fput, s_fop, s_aput, j_aput, j_nar, s_aop, s_ret, s_retv, s_go, s_pop, x_linc, x_finc, Value.category, if_icmp.holds, List.flatMap_cons, List.flatMap_nil, List.length_cons, List.length_append, List.length_nil, List.set_cons_succ, List.set_cons_zero, List.getElem?_cons_succ, List.getElem?_cons_zero, List.replicate, ite_and', ite_or', ite_int', nI_leI, nI_ltI, nI_eq, nI_add, nI_1, pk_mul, nI_clamp, n_in', nI_pos', nI_pos, n_m1e, n_01, n_10, sT_1, sR_1_0, sR_1_1, sR_1_2, sR_1_3, sR_1_4, sR_1_5, sR_1_6, sR_1_7, sR_1_8, sR_1_9, sT_2, sT_3, sT_4, sT_5, sT_6, sT_7, sT_8, sT_9, sT_10, sT_11, sT_12, sT_13, sT_14, sR_2_1, sR_2_2, sR_2_3, sR_2_4, sR_2_5, sR_2_6, sR_2_7, sR_2_8, sR_2_9, sR_2_10, sR_2_11, sR_2_12, sT_15, sT_16, sT_17, sT_18, sT_19, sT_20, sT_21, sT_22, sT_23, sR_15_1, sR_15_2, sR_15_3, sR_15_4, sR_15_5, sR_15_6, sR_15_7, sR_15_8, sT_24, sT_25, sT_26, sT_27, sT_28, sT_29, sR_24_1, sR_24_2, sR_24_3, sR_24_4, sR_24_5, sT_71, sT_72, sR_71_0, sR_71_1, sR_71_2, sR_71_3, sR_71_4, sT_73, sT_74, sT_75, sR_73_0, sR_73_1, sR_73_2, sR_73_3, sR_73_4, sR_73_5, sT_84, sT_85, sT_86, sT_87, sR_84_0, sR_84_1, sR_84_2, sR_84_3, sR_84_4, sR_84_5, sT_88, sT_89, sR_88_0, sT_90, sT_91, sR_90_0, g7, h01]
  rw [W_arrive_s]
  by_cases hf : sFree A S = true
  case neg =>
    have hf' : sFree A S = false := by simpa using hf
    rw [hf'] at e0
    have hst : sStd A S = false := by
      rw [std_wk x.1.1.2.1 oS.1 oS.2.1, hf']; rfl
    have har : (arE A S l).2 = l := by unfold arE; rw [hst]; rfl
    rw [har]
    refine ⟨h, ?_, x, lv, g7, fi⟩
    simp only [Bool.false_eq_true, if_false] at e0
    clear e1
    generalize slM A (sWt A S) = s2 at *
    generalize slM A S = s1 at *
    simp (disch := first | assumption | omega) [j_meth, j_out, j_rok, j_pad, lg_sl, s_seq_w, isN_inl, isN_inr, s_if, jb, x_c, x_iloc, x_aloc, x_lloc, x_bin, x_un, o_add, o_sub, o_mul, o_and, o_or, o_xor, o_shl, o_shr, o_ushr, o_max, o_min, o_i2b, o_i2c, o_i2l, o_l2i, x_fld, j_fget, x_idx, j_aget, x_len, j_alen, x_ofb, x_ite, xs_nil, xs_cons, x_callv, x_calls, s_callv, s_calls, j_recv, j_ret, j_retv, b_cmp, b_and, b_or, b_not, b_ofi, b_ite, b_true, s_skip, s_set, j_ty, j_lset, j_kill, s_inc, s_fput, j_fput, s_fop, s_aput, j_aput, j_nar, s_aop, s_ret, s_retv, s_go, s_pop, x_linc, x_finc, Value.category, if_icmp.holds, List.flatMap_cons, List.flatMap_nil, List.length_cons, List.length_append, List.length_nil, List.set_cons_succ, List.set_cons_zero, List.getElem?_cons_succ, List.getElem?_cons_zero, List.replicate, e0]
  have e2 := e_W_arr2 x oS (by rw [hA]; exact hf)
  rw [hA] at e2
  rw [hf] at e0
  simp only [if_true] at e0
  by_cases hst : sStd A S = true
  case neg =>
    have hst' : sStd A S = false := by simpa using hst
    rw [hst'] at e2
    have har : (arE A S l).2 = l := by unfold arE; rw [hst']; rfl
    rw [har]
    refine ⟨h, ?_, x, lv, g7, fi⟩
    simp only [Bool.false_eq_true, if_false] at e2
    generalize slM A (sWt A S) = s2 at *
    generalize slM A S = s1 at *
    simp (disch := first | assumption | omega) [j_meth, j_out, j_rok, j_pad, lg_sl, s_seq_w, isN_inl, isN_inr, s_if, jb, x_c, x_iloc, x_aloc, x_lloc, x_bin, x_un, o_add, o_sub, o_mul, o_and, o_or, o_xor, o_shl, o_shr, o_ushr, o_max, o_min, o_i2b, o_i2c, o_i2l, o_l2i, x_fld, j_fget, x_idx, j_aget, x_len, j_alen, x_ofb, x_ite, xs_nil, xs_cons, x_callv, x_calls, s_callv, s_calls, j_recv, j_ret, j_retv, b_cmp, b_and, b_or, b_not, b_ofi, b_ite, b_true, s_skip, s_set, j_ty, j_lset, j_kill, s_inc, s_fput, j_fput, s_fop, s_aput, j_aput, j_nar, s_aop, s_ret, s_retv, s_go, s_pop, x_linc, x_finc, Value.category, if_icmp.holds, List.flatMap_cons, List.flatMap_nil, List.length_cons, List.length_append, List.length_nil, List.set_cons_succ, List.set_cons_zero, List.getElem?_cons_succ, List.getElem?_cons_zero, List.replicate, e0, e1, e2]
  rw [hst] at e2
  simp only [if_true] at e2
  have har : (arE A S l).2 = l ++ [S] := by unfold arE; rw [hst]; rfl
  rw [har]
  obtain ⟨h1, ek, fk⟩ := FI_keep (S := S) x0.1.1.1 hg hra fi (hl hst)
  have hs0 := x0.1.1.1
  have hW : ∀ a j, Wkp (hR h0 73 11) a j → 73 ≤ a ∧ a ≠ 74 ∧ a ≠ 75 ∧ (a = 73 → j = 12) := fun a j q => by
    unfold Wkp at q
    unfold isG at hg
    omega
  have g7' : hI h1 73 7 = 0 := by
    rw [FG_I hs0 fk.1 (by omega) fun q => by have := (hW _ _ q).2.2.2 rfl; omega]
    exact hg7
  refine ⟨h1, ?_, MV_g x0 fk.1 fun a j q => (hW a j q).1, WLv_g hs0 l0 fk.1 fun a j q => ⟨(hW a j q).2.1, (hW a j q).2.2.1, fun z => by have := (hW a j q).2.2.2 z; omega⟩, g7', fk⟩
  have hs1 := FG_shape hs0 fk.1
  generalize slM A (sWt A S) = s2 at *
  generalize slM A S = s1 at *
  clear fk fi
  have h00 : (nI 0 = 0) = True := by decide
  have h02 : ((0 : Int32) = nI 2) = False := by decide
  have e3 : wa_3 ([.ref 73, .int (nI S), .int (nI s1), .int (nI s2)], h) = some (.inl 0, ([.ref 73, .int (nI S), .int (nI s1), .int (nI s2)], h1)) := by
    simp (disch := first | assumption | omega) [wa_3, j_meth, j_out, j_rok, j_pad, lg_sl, s_seq_w, isN_inl, isN_inr, s_if, jb, x_c, x_iloc, x_aloc, x_lloc, x_bin, x_un, o_add, o_sub, o_mul, o_and, o_or, o_xor, o_shl, o_shr, o_ushr, o_max, o_min, o_i2b, o_i2c, o_i2l, o_l2i, x_fld, j_fget, x_idx, j_aget, x_len, j_alen, x_ofb, x_ite, xs_nil, xs_cons, x_callv, x_calls, s_callv, s_calls, j_recv, j_ret, j_retv, b_cmp, b_and, b_or, b_not, b_ofi, b_ite, b_true, s_skip, s_set, j_ty, j_lset, j_kill, s_inc, s_fput, j_fput, s_fop, s_aput, j_aput, j_nar, s_aop, s_ret, s_retv, s_go, s_pop, x_linc, x_finc, Value.category, if_icmp.holds, List.flatMap_cons, List.flatMap_nil, List.length_cons, List.length_append, List.length_nil, List.set_cons_succ, List.set_cons_zero, List.getElem?_cons_succ, List.getElem?_cons_zero, List.replicate, ite_and', ite_or', ite_int', nI_leI, nI_ltI, nI_eq, nI_add, nI_1, pk_mul, nI_clamp, n_in', nI_pos', nI_pos, n_m1e, n_01, n_10, sT_1, sR_1_0, sR_1_1, sR_1_2, sR_1_3, sR_1_4, sR_1_5, sR_1_6, sR_1_7, sR_1_8, sR_1_9, sT_2, sT_3, sT_4, sT_5, sT_6, sT_7, sT_8, sT_9, sT_10, sT_11, sT_12, sT_13, sT_14, sR_2_1, sR_2_2, sR_2_3, sR_2_4, sR_2_5, sR_2_6, sR_2_7, sR_2_8, sR_2_9, sR_2_10, sR_2_11, sR_2_12, sT_15, sT_16, sT_17, sT_18, sT_19, sT_20, sT_21, sT_22, sT_23, sR_15_1, sR_15_2, sR_15_3, sR_15_4, sR_15_5, sR_15_6, sR_15_7, sR_15_8, sT_24, sT_25, sT_26, sT_27, sT_28, sT_29, sR_24_1, sR_24_2, sR_24_3, sR_24_4, sR_24_5, sT_71, sT_72, sR_71_0, sR_71_1, sR_71_2, sR_71_3, sR_71_4, sT_73, sT_74, sT_75, sR_73_0, sR_73_1, sR_73_2, sR_73_3, sR_73_4, sR_73_5, sT_84, sT_85, sT_86, sT_87, sR_84_0, sR_84_1, sR_84_2, sR_84_3, sR_84_4, sR_84_5, sT_88, sT_89, sR_88_0, sT_90, sT_91, sR_90_0, g7, ek]
  have e4 : wa_4 ([.ref 73, .int (nI S), .int (nI s1), .int (nI s2)], h1) = some (.inr (some (.int 0)), ([.ref 73, .int (nI S), .int (nI s1), .int (nI s2)], h1)) := by
    simp (disch := first | assumption | omega) [wa_4, j_meth, j_out, j_rok, j_pad, lg_sl, s_seq_w, isN_inl, isN_inr, s_if, jb, x_c, x_iloc, x_aloc, x_lloc, x_bin, x_un, o_add, o_sub, o_mul, o_and, o_or, o_xor, o_shl, o_shr, o_ushr, o_max, o_min, o_i2b, o_i2c, o_i2l, o_l2i, x_fld, j_fget, x_idx, j_aget, x_len, j_alen, x_ofb, x_ite, xs_nil, xs_cons, x_callv, x_calls, s_callv, s_calls, j_recv, j_ret, j_retv, b_cmp, b_and, b_or, b_not, b_ofi, b_ite, b_true, s_skip, s_set, j_ty, j_lset, j_kill, s_inc, s_fput, j_fput, s_fop, s_aput, j_aput, j_nar, s_aop, s_ret, s_retv, s_go, s_pop, x_linc, x_finc, Value.category, if_icmp.holds, List.flatMap_cons, List.flatMap_nil, List.length_cons, List.length_append, List.length_nil, List.set_cons_succ, List.set_cons_zero, List.getElem?_cons_succ, List.getElem?_cons_zero, List.replicate, ite_and', ite_or', ite_int', nI_leI, nI_ltI, nI_eq, nI_add, nI_1, pk_mul, nI_clamp, n_in', nI_pos', nI_pos, n_m1e, n_01, n_10, sT_1, sR_1_0, sR_1_1, sR_1_2, sR_1_3, sR_1_4, sR_1_5, sR_1_6, sR_1_7, sR_1_8, sR_1_9, sT_2, sT_3, sT_4, sT_5, sT_6, sT_7, sT_8, sT_9, sT_10, sT_11, sT_12, sT_13, sT_14, sR_2_1, sR_2_2, sR_2_3, sR_2_4, sR_2_5, sR_2_6, sR_2_7, sR_2_8, sR_2_9, sR_2_10, sR_2_11, sR_2_12, sT_15, sT_16, sT_17, sT_18, sT_19, sT_20, sT_21, sT_22, sT_23, sR_15_1, sR_15_2, sR_15_3, sR_15_4, sR_15_5, sR_15_6, sR_15_7, sR_15_8, sT_24, sT_25, sT_26, sT_27, sT_28, sT_29, sR_24_1, sR_24_2, sR_24_3, sR_24_4, sR_24_5, sT_71, sT_72, sR_71_0, sR_71_1, sR_71_2, sR_71_3, sR_71_4, sT_73, sT_74, sT_75, sR_73_0, sR_73_1, sR_73_2, sR_73_3, sR_73_4, sR_73_5, sT_84, sT_85, sT_86, sT_87, sR_84_0, sR_84_1, sR_84_2, sR_84_3, sR_84_4, sR_84_5, sT_88, sT_89, sR_88_0, sT_90, sT_91, sR_90_0, g7', h02]
  simp (disch := first | assumption | omega) [j_meth, j_out, j_rok, j_pad, lg_sl, s_seq_w, isN_inl, isN_inr, s_if, jb, x_c, x_iloc, x_aloc, x_lloc, x_bin, x_un, o_add, o_sub, o_mul, o_and, o_or, o_xor, o_shl, o_shr, o_ushr, o_max, o_min, o_i2b, o_i2c, o_i2l, o_l2i, x_fld, j_fget, x_idx, j_aget, x_len, j_alen, x_ofb, x_ite, xs_nil, xs_cons, x_callv, x_calls, s_callv, s_calls, j_recv, j_ret, j_retv, b_cmp, b_and, b_or, b_not, b_ofi, b_ite, b_true, s_skip, s_set, j_ty, j_lset, j_kill, s_inc, s_fput, j_fput, s_fop, s_aput, j_aput, j_nar, s_aop, s_ret, s_retv, s_go, s_pop, x_linc, x_finc, Value.category, if_icmp.holds, List.flatMap_cons, List.flatMap_nil, List.length_cons, List.length_append, List.length_nil, List.set_cons_succ, List.set_cons_zero, List.getElem?_cons_succ, List.getElem?_cons_zero, List.replicate, e0, e1, e2, e3, e4]
