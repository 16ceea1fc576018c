/-! places: the code -/
theorem vst_any (B : AS) : ∀ (L : List Nat), vst (fun S (s : Unit) => (sStd B S, s)) L () = (L.any (sStd B), ()) := by
  intro L
  induction L with
  | nil => rfl
  | cons S L ih =>
    simp only [vst, List.any_cons]
    cases h : sStd B S with
    | true => simp
    | false => simp [ih]
theorem wk_any {A : AS} (w : WF A) (mv : Nat → Nat) : (wk A mv (lvL A (aNb A)) 0).any (sStd (aMv A mv)) = exB (aMv A mv) := by
  rw [Bool.eq_iff_iff, exB_iff (WF_mv w mv), List.any_eq_true]
  constructor
  · rintro ⟨S, h1, h2⟩; exact ⟨S, wk_lt (A := A) h1, h2⟩
  · rintro ⟨S, h1, h2⟩
    obtain ⟨m1, m2⟩ := std_ok (WF_mv w mv) h1 h2
    exact ⟨S, wk_free w h1 m1 m2, h2⟩
theorem e_W_arrA {A : AS} {mv : Nat → Nat} {h : jHp} {S : Nat} (oS : okS A S) (x : MV A mv h) (g7 : hI h 73 7 = nI 2) :
    f_W_arrive [.ref 73, .int (nI S), .int (nI (slM A S)), .int (nI (slM A (sWt A S)))] h = some (some (.int (if sStd (aMv A mv) S then 1 else 0)), h) := by
  have hs := x.1.1.1
  have e0 := e_W_arr0 x oS (nI (slM A (sWt A S)))
  rw [W_arrive_s]
  by_cases hf : sFree (aMv A mv) S = true
  case neg =>
    have hf' : sFree (aMv A mv) S = false := by simpa using hf
    have hst : sStd (aMv A mv) S = false := by
      rw [std_wk (WF_mv x.1.1.2.1 mv) oS.1 oS.2.1, hf']; rfl
    rw [hf'] at e0
    rw [hst]
    simp only [Bool.false_eq_true, if_false] at e0 ⊢
    generalize slM A (sWt A S) = s2 at *
    generalize slM A S = s1 at *
    simp (disch := first | assumption | omega) [j_meth, j_out, j_rok, j_pad, lg_sl, s_seq_w, isN_inl, isN_inr, s_if, jb, x_c, x_iloc, x_aloc, x_lloc, x_bin, x_un, o_add, o_sub, o_mul, o_and, o_or, o_xor, o_shl, o_shr, o_ushr, o_max, o_min, o_i2b, o_i2c, o_i2l, o_l2i, x_fld, j_fget, x_idx, j_aget, x_len, j_alen, x_ofb, x_ite, xs_nil, xs_cons, x_callv, x_calls, s_callv, s_calls, j_recv, j_ret, j_retv, b_cmp, b_and, b_or, b_not, b_ofi, b_ite, b_true, s_skip, s_set, j_ty, j_lset, j_kill, s_inc, s_fput, j_fput, s_fop, s_aput, j_aput, j_nar, s_aop, s_ret, s_retv, s_go, s_pop, x_linc, x_finc, Value.category, if_icmp.holds, List.flatMap_cons, List.flatMap_nil, List.length_cons, List.length_append, List.length_nil, List.set_cons_succ, List.set_cons_zero, List.getElem?_cons_succ, List.getElem?_cons_zero, List.replicate, e0]
  have e2 := e_W_arr2 x oS hf
  rw [hf] at e0
  simp only [if_true] at e0
  clear x
  generalize slM A (sWt A S) = s2 at *
  generalize slM A S = s1 at *
  have n21 : (nI 2 = nI 1) = False := by decide
  have n20 : (nI 2 = (0 : Int32)) = False := by decide
  have e1 : wa_1 ([.ref 73, .int (nI S), .int (nI s1), .int (nI s2)], h) = some (.inl 0, ([.ref 73, .int (nI S), .int (nI s1), .int (nI s2)], h)) := by
    simp (disch := first | assumption | omega) [wa_1, j_meth, j_out, j_rok, j_pad, lg_sl, s_seq_w, isN_inl, isN_inr, s_if, jb, x_c, x_iloc, x_aloc, x_lloc, x_bin, x_un, o_add, o_sub, o_mul, o_and, o_or, o_xor, o_shl, o_shr, o_ushr, o_max, o_min, o_i2b, o_i2c, o_i2l, o_l2i, x_fld, j_fget, x_idx, j_aget, x_len, j_alen, x_ofb, x_ite, xs_nil, xs_cons, x_callv, x_calls, s_callv, s_calls, j_recv, j_ret, j_retv, b_cmp, b_and, b_or, b_not, b_ofi, b_ite, b_true, s_skip, s_set, j_ty, j_lset, j_kill, s_inc, s_fput, j_fput, s_fop, s_aput, j_aput, j_nar, s_aop, s_ret, s_retv, s_go, s_pop, x_linc, x_finc, Value.category, if_icmp.holds, List.flatMap_cons, List.flatMap_nil, List.length_cons, List.length_append, List.length_nil, List.set_cons_succ, List.set_cons_zero, List.getElem?_cons_succ, List.getElem?_cons_zero, List.replicate, ite_and', ite_or', ite_int', nI_leI, nI_ltI, nI_eq, nI_add, nI_1, pk_mul, nI_clamp, n_in', nI_pos', nI_pos, n_m1e, n_01, n_10, sT_1, sR_1_0, sR_1_1, sR_1_2, sR_1_3, sR_1_4, sR_1_5, sR_1_6, sR_1_7, sR_1_8, sR_1_9, sT_2, sT_3, sT_4, sT_5, sT_6, sT_7, sT_8, sT_9, sT_10, sT_11, sT_12, sT_13, sT_14, sR_2_1, sR_2_2, sR_2_3, sR_2_4, sR_2_5, sR_2_6, sR_2_7, sR_2_8, sR_2_9, sR_2_10, sR_2_11, sR_2_12, sT_15, sT_16, sT_17, sT_18, sT_19, sT_20, sT_21, sT_22, sT_23, sR_15_1, sR_15_2, sR_15_3, sR_15_4, sR_15_5, sR_15_6, sR_15_7, sR_15_8, sT_24, sT_25, sT_26, sT_27, sT_28, sT_29, sR_24_1, sR_24_2, sR_24_3, sR_24_4, sR_24_5, sT_71, sT_72, sR_71_0, sR_71_1, sR_71_2, sR_71_3, sR_71_4, sT_73, sT_74, sT_75, sR_73_0, sR_73_1, sR_73_2, sR_73_3, sR_73_4, sR_73_5, sT_84, sT_85, sT_86, sT_87, sR_84_0, sR_84_1, sR_84_2, sR_84_3, sR_84_4, sR_84_5, sT_88, sT_89, sR_88_0, sT_90, sT_91, sR_90_0, g7, n21]
  have e3 : wa_3 ([.ref 73, .int (nI S), .int (nI s1), .int (nI s2)], h) = some (.inl 0, ([.ref 73, .int (nI S), .int (nI s1), .int (nI s2)], h)) := by
    simp (disch := first | assumption | omega) [wa_3, j_meth, j_out, j_rok, j_pad, lg_sl, s_seq_w, isN_inl, isN_inr, s_if, jb, x_c, x_iloc, x_aloc, x_lloc, x_bin, x_un, o_add, o_sub, o_mul, o_and, o_or, o_xor, o_shl, o_shr, o_ushr, o_max, o_min, o_i2b, o_i2c, o_i2l, o_l2i, x_fld, j_fget, x_idx, j_aget, x_len, j_alen, x_ofb, x_ite, xs_nil, xs_cons, x_callv, x_calls, s_callv, s_calls, j_recv, j_ret, j_retv, b_cmp, b_and, b_or, b_not, b_ofi, b_ite, b_true, s_skip, s_set, j_ty, j_lset, j_kill, s_inc, s_fput, j_fput, s_fop, s_aput, j_aput, j_nar, s_aop, s_ret, s_retv, s_go, s_pop, x_linc, x_finc, Value.category, if_icmp.holds, List.flatMap_cons, List.flatMap_nil, List.length_cons, List.length_append, List.length_nil, List.set_cons_succ, List.set_cons_zero, List.getElem?_cons_succ, List.getElem?_cons_zero, List.replicate, ite_and', ite_or', ite_int', nI_leI, nI_ltI, nI_eq, nI_add, nI_1, pk_mul, nI_clamp, n_in', nI_pos', nI_pos, n_m1e, n_01, n_10, sT_1, sR_1_0, sR_1_1, sR_1_2, sR_1_3, sR_1_4, sR_1_5, sR_1_6, sR_1_7, sR_1_8, sR_1_9, sT_2, sT_3, sT_4, sT_5, sT_6, sT_7, sT_8, sT_9, sT_10, sT_11, sT_12, sT_13, sT_14, sR_2_1, sR_2_2, sR_2_3, sR_2_4, sR_2_5, sR_2_6, sR_2_7, sR_2_8, sR_2_9, sR_2_10, sR_2_11, sR_2_12, sT_15, sT_16, sT_17, sT_18, sT_19, sT_20, sT_21, sT_22, sT_23, sR_15_1, sR_15_2, sR_15_3, sR_15_4, sR_15_5, sR_15_6, sR_15_7, sR_15_8, sT_24, sT_25, sT_26, sT_27, sT_28, sT_29, sR_24_1, sR_24_2, sR_24_3, sR_24_4, sR_24_5, sT_71, sT_72, sR_71_0, sR_71_1, sR_71_2, sR_71_3, sR_71_4, sT_73, sT_74, sT_75, sR_73_0, sR_73_1, sR_73_2, sR_73_3, sR_73_4, sR_73_5, sT_84, sT_85, sT_86, sT_87, sR_84_0, sR_84_1, sR_84_2, sR_84_3, sR_84_4, sR_84_5, sT_88, sT_89, sR_88_0, sT_90, sT_91, sR_90_0, g7, n20]
  have e4 : wa_4 ([.ref 73, .int (nI S), .int (nI s1), .int (nI s2)], h) = some (.inr (some (.int 1)), ([.ref 73, .int (nI S), .int (nI s1), .int (nI s2)], h)) := by
    simp (disch := first | assumption | omega) [wa_4, j_meth, j_out, j_rok, j_pad, lg_sl, s_seq_w, isN_inl, isN_inr, s_if, jb, x_c, x_iloc, x_aloc, x_lloc, x_bin, x_un, o_add, o_sub, o_mul, o_and, o_or, o_xor, o_shl, o_shr, o_ushr, o_max, o_min, o_i2b, o_i2c, o_i2l, o_l2i, x_fld, j_fget, x_idx, j_aget, x_len, j_alen, x_ofb, x_ite, xs_nil, xs_cons, x_callv, x_calls, s_callv, s_calls, j_recv, j_ret, j_retv, b_cmp, b_and, b_or, b_not, b_ofi, b_ite, b_true, s_skip, s_set, j_ty, j_lset, j_kill, s_inc, s_fput, j_fput, s_fop, s_aput, j_aput, j_nar, s_aop, s_ret, s_retv, s_go, s_pop, x_linc, x_finc, Value.category, if_icmp.holds, List.flatMap_cons, List.flatMap_nil, List.length_cons, List.length_append, List.length_nil, List.set_cons_succ, List.set_cons_zero, List.getElem?_cons_succ, List.getElem?_cons_zero, List.replicate, ite_and', ite_or', ite_int', nI_leI, nI_ltI, nI_eq, nI_add, nI_1, pk_mul, nI_clamp, n_in', nI_pos', nI_pos, n_m1e, n_01, n_10, sT_1, sR_1_0, sR_1_1, sR_1_2, sR_1_3, sR_1_4, sR_1_5, sR_1_6, sR_1_7, sR_1_8, sR_1_9, sT_2, sT_3, sT_4, sT_5, sT_6, sT_7, sT_8, sT_9, sT_10, sT_11, sT_12, sT_13, sT_14, sR_2_1, sR_2_2, sR_2_3, sR_2_4, sR_2_5, sR_2_6, sR_2_7, sR_2_8, sR_2_9, sR_2_10, sR_2_11, sR_2_12, sT_15, sT_16, sT_17, sT_18, sT_19, sT_20, sT_21, sT_22, sT_23, sR_15_1, sR_15_2, sR_15_3, sR_15_4, sR_15_5, sR_15_6, sR_15_7, sR_15_8, sT_24, sT_25, sT_26, sT_27, sT_28, sT_29, sR_24_1, sR_24_2, sR_24_3, sR_24_4, sR_24_5, sT_71, sT_72, sR_71_0, sR_71_1, sR_71_2, sR_71_3, sR_71_4, sT_73, sT_74, sT_75, sR_73_0, sR_73_1, sR_73_2, sR_73_3, sR_73_4, sR_73_5, sT_84, sT_85, sT_86, sT_87, sR_84_0, sR_84_1, sR_84_2, sR_84_3, sR_84_4, sR_84_5, sT_88, sT_89, sR_88_0, sT_90, sT_91, sR_90_0, g7]
  cases hst : sStd (aMv A mv) S with
  | false =>
    rw [hst] at e2
    simp only [Bool.false_eq_true, if_false] at e2 ⊢
    simp (disch := first | assumption | omega) [j_meth, j_out, j_rok, j_pad, lg_sl, s_seq_w, isN_inl, isN_inr, s_if, jb, x_c, x_iloc, x_aloc, x_lloc, x_bin, x_un, o_add, o_sub, o_mul, o_and, o_or, o_xor, o_shl, o_shr, o_ushr, o_max, o_min, o_i2b, o_i2c, o_i2l, o_l2i, x_fld, j_fget, x_idx, j_aget, x_len, j_alen, x_ofb, x_ite, xs_nil, xs_cons, x_callv, x_calls, s_callv, s_calls, j_recv, j_ret, j_retv, b_cmp, b_and, b_or, b_not, b_ofi, b_ite, b_true, s_skip, s_set, j_ty, j_lset, j_kill, s_inc, s_fput, j_fput, s_fop, s_aput, j_aput, j_nar, s_aop, s_ret, s_retv, s_go, s_pop, x_linc, x_finc, Value.category, if_icmp.holds, List.flatMap_cons, List.flatMap_nil, List.length_cons, List.length_append, List.length_nil, List.set_cons_succ, List.set_cons_zero, List.getElem?_cons_succ, List.getElem?_cons_zero, List.replicate, e0, e1, e2]
  | true =>
    rw [hst] at e2
    simp only [if_true] at e2 ⊢
    simp (disch := first | assumption | omega) [j_meth, j_out, j_rok, j_pad, lg_sl, s_seq_w, isN_inl, isN_inr, s_if, jb, x_c, x_iloc, x_aloc, x_lloc, x_bin, x_un, o_add, o_sub, o_mul, o_and, o_or, o_xor, o_shl, o_shr, o_ushr, o_max, o_min, o_i2b, o_i2c, o_i2l, o_l2i, x_fld, j_fget, x_idx, j_aget, x_len, j_alen, x_ofb, x_ite, xs_nil, xs_cons, x_callv, x_calls, s_callv, s_calls, j_recv, j_ret, j_retv, b_cmp, b_and, b_or, b_not, b_ofi, b_ite, b_true, s_skip, s_set, j_ty, j_lset, j_kill, s_inc, s_fput, j_fput, s_fop, s_aput, j_aput, j_nar, s_aop, s_ret, s_retv, s_go, s_pop, x_linc, x_finc, Value.category, if_icmp.holds, List.flatMap_cons, List.flatMap_nil, List.length_cons, List.length_append, List.length_nil, List.set_cons_succ, List.set_cons_zero, List.getElem?_cons_succ, List.getElem?_cons_zero, List.replicate, e0, e1, e2, e3, e4]
theorem e_W_any {A : AS} {mv : Nat → Nat} {h : jHp} (x : MV A mv h) (lv : WLv A h) (g7 : hI h 73 7 = nI 2) : f_W_step 30 [.ref 73, .int (nI 0), .int (nI 0), .int (nI 0), .int (nI (slM A (sWt A 0))), .int (nI 0)] h = some (some (.int (if exB (aMv A mv) then 1 else 0)), h) := by
  have := e_W_walk (A := A) (mv := mv) (fun S (s : Unit) => (sStd (aMv A mv) S, s)) (fun _ h' => h' = h) (fun s h' i => by rw [i]; exact ⟨x, lv⟩) (s := ())
    (fun pre S post s' h' _ _ oS i => by
      subst i
      exact ⟨h', e_W_arrA oS x g7, rfl⟩) (h := h) rfl
  rw [vst_any, wk_any x.1.1.2.1] at this
  obtain ⟨h', e, rfl⟩ := this
  exact e
theorem mvC_lt (c o : Nat) : mvC c o < 4 := Nat.mod_lt _ (by decide)
theorem mvC_n {c o : Nat} (hc : c < 256) (ho : o < 4) : ((nI c).toUInt32 >>> ((nI (2 * (3 - o))).toUInt32 &&& Int32.toUInt32 31)).toInt32 &&& nI 3 = nI (mvC c o) := by
  rw [n_ushr (by omega) (by omega), n_and]
  congr 1
  unfold mvC
  rw [show (3 : Nat) = 2 ^ 2 - 1 from rfl, Nat.and_two_pow_sub_one_eq_mod]
  congr 2
  rw [show (4 : Nat) = 2 ^ 2 from rfl, ← Nat.pow_mul]
def smK (c : Nat) (k : Nat) : Nat := nfo (fun o s => s + mvC c o) k 0
theorem smK_4 (c : Nat) : smK c 4 = smC c := by
  unfold smC
  show 0 + mvC c 0 + mvC c 1 + mvC c 2 + mvC c 3 = _
  omega
theorem smK_le (c : Nat) : ∀ k, smK c k ≤ 3 * k := by
  intro k
  induction k with
  | zero => exact Nat.le_refl _
  | succ k ih =>
    have e : smK c (k + 1) = smK c k + mvC c k := rfl
    have := mvC_lt c k
    omega
theorem e_Ma_readyWithMore {A : AS} {ca bl : Nat → Nat} {h : jHp} (x : MK A h) (d : DK A ca bl h) {c t : Nat} (hc : c < 256) (ht : t < 4) : ∃ h' bl', f_Ma_readyWithMore [.ref 71, .int (nI c), .int (nI t)] h = some (some (.int (if rdP A t c then 1 else 0)), h') ∧ Fr Wrd h h' ∧ DK A ca bl' h' ∧ (rdP A t c = true → MV A (mvC c) h') := by
  have hs := x.1.1
  have hL := loop_wp (lb := 1) (lc := 2) (c := lc_Ma_readyWithMore_1) (b := lb_Ma_readyWithMore_1) (u := lu_Ma_readyWithMore_1) 4
    (fun o st => ∃ h', st = ([.ref 71, .int (nI c), .int (nI t), .int (nI (smK c o)), .int (nI o)], h') ∧ Fr (fun a _ => a = 72) h h' ∧ ∀ k, k < o → hI h' 72 k = nI (mvC c k))
    (fun r => ∃ h', r = (.inl 0, ([.ref 71, .int (nI c), .int (nI t), .int (nI (smK c 4)), .int (nI 4)], h')) ∧ Fr (fun a _ => a = 72) h h' ∧ ∀ k, k < 4 → hI h' 72 k = nI (mvC c k))
    ?_ ?_ ([.ref 71, .int (nI c), .int (nI t), .int (nI 0), .int (nI 0)], h) ⟨h, rfl, Fr_refl _ _, fun k hk => by omega⟩
  · obtain ⟨r, e1, h1, rfl, f1, c1⟩ := hL
    rw [smK_4] at e1
    have hs1 := Fr_shape hs f1
    have d1 : DK A ca bl h1 := DK_fr d f1 (fun a j q => W72_cC q) fun a j k hk q z => by
      have := Wdk_lt hk z
      omega
    have f1' : Fr Wrd h h1 := Fr_mono f1 fun a j q => Or.inr q
    have x1 : MK A h1 := MK_fr x f1' fun a j q => Wrd_cC q
    have hb := smK_le c 4
    rw [smK_4] at hb
    have hst : (nI (smC c) = nI t) = (smC c = t) := propext (n_eq (by omega) (by omega))
    simp only [nI_0] at e1
    by_cases hsm : smC c = t
    case neg =>
      have hr : rdP A t c = false := by
        unfold rdP
        rw [show (smC c == t) = false from by simpa using hsm]
        rfl
      rw [hr]
      refine ⟨h1, bl, ?_, f1', d1, fun q => by cases q⟩
      clear d1 d x x1
      generalize smC c = s at *
      simp (disch := first | assumption | omega) [f_Ma_readyWithMore, body_Ma_readyWithMore, j_meth, j_out, j_rok, j_pad, lg_sl, s_seq_w, isN_inl, isN_inr, s_if, jb, x_c, x_iloc, x_aloc, x_lloc, x_bin, x_un, o_add, o_sub, o_mul, o_and, o_or, o_xor, o_shl, o_shr, o_ushr, o_max, o_min, o_i2b, o_i2c, o_i2l, o_l2i, x_fld, j_fget, x_idx, j_aget, x_len, j_alen, x_ofb, x_ite, xs_nil, xs_cons, x_callv, x_calls, s_callv, s_calls, j_recv, j_ret, j_retv, b_cmp, b_and, b_or, b_not, b_ofi, b_ite, b_true, s_skip, s_set, j_ty, j_lset, j_kill, s_inc, s_fput, j_fput, s_fop, s_aput, j_aput, j_nar, s_aop, s_ret, s_retv, s_go, s_pop, x_linc, x_finc, Value.category, if_icmp.holds, List.flatMap_cons, List.flatMap_nil, List.length_cons, List.length_append, List.length_nil, List.set_cons_succ, List.set_cons_zero, List.getElem?_cons_succ, List.getElem?_cons_zero, List.replicate, ite_and', ite_or', ite_int', nI_leI, nI_ltI, nI_eq, nI_add, nI_1, pk_mul, nI_clamp, n_in', nI_pos', nI_pos, n_m1e, n_01, n_10, sT_1, sR_1_0, sR_1_1, sR_1_2, sR_1_3, sR_1_4, sR_1_5, sR_1_6, sR_1_7, sR_1_8, sR_1_9, sT_2, sT_3, sT_4, sT_5, sT_6, sT_7, sT_8, sT_9, sT_10, sT_11, sT_12, sT_13, sT_14, sR_2_1, sR_2_2, sR_2_3, sR_2_4, sR_2_5, sR_2_6, sR_2_7, sR_2_8, sR_2_9, sR_2_10, sR_2_11, sR_2_12, sT_15, sT_16, sT_17, sT_18, sT_19, sT_20, sT_21, sT_22, sT_23, sR_15_1, sR_15_2, sR_15_3, sR_15_4, sR_15_5, sR_15_6, sR_15_7, sR_15_8, sT_24, sT_25, sT_26, sT_27, sT_28, sT_29, sR_24_1, sR_24_2, sR_24_3, sR_24_4, sR_24_5, sT_71, sT_72, sR_71_0, sR_71_1, sR_71_2, sR_71_3, sR_71_4, sT_73, sT_74, sT_75, sR_73_0, sR_73_1, sR_73_2, sR_73_3, sR_73_4, sR_73_5, sT_84, sT_85, sT_86, sT_87, sR_84_0, sR_84_1, sR_84_2, sR_84_3, sR_84_4, sR_84_5, sT_88, sT_89, sR_88_0, sT_90, sT_91, sR_90_0, nI_0, e1, hst, hsm]
    have hr : rdP A t c = nfo (fun o a => a && (mvC c o == 0 || gnB A o (mvC c o))) 4 true := by
      unfold rdP
      rw [show (smC c == t) = true from by simpa using hsm]
      rfl
    have hL2 := loop_wp (lb := 3) (lc := 4) (c := lc_Ma_readyWithMore_2) (b := lb_Ma_readyWithMore_2) (u := lu_Ma_readyWithMore_2) 4
      (fun o st => ∃ h' bl', st = ([.ref 71, .int (nI c), .int (nI t), .int (nI (smC c)), .int (nI o)], h') ∧ Fr Wds h1 h' ∧ DK A ca bl' h' ∧ ∀ k, k < o → (mvC c k = 0 ∨ gnB A k (mvC c k) = true) ∧ (bl' k).testBit (mvC c k) = true)
      (fun r => ∃ h' bl' st, ((r = (.inl 0, (st, h')) ∧ ∀ k, k < 4 → (mvC c k = 0 ∨ gnB A k (mvC c k) = true) ∧ (bl' k).testBit (mvC c k) = true) ∨ (r = (.inr (some (.int 0)), (st, h')) ∧ ∃ k, k < 4 ∧ ¬ (mvC c k = 0 ∨ gnB A k (mvC c k) = true))) ∧ Fr Wds h1 h' ∧ DK A ca bl' h')
      ?_ ?_ ([.ref 71, .int (nI c), .int (nI t), .int (nI (smC c)), .int (nI 0)], h1) ⟨h1, bl, rfl, Fr_refl _ _, d1, fun k hk => by omega⟩
    · obtain ⟨r, e2, h2, bl2, st, hq, f2, d2⟩ := hL2
      have f2' : Fr Wrd h h2 := Fr_trans f1' (Fr_mono f2 fun a j q => Or.inl q)
      refine ⟨h2, bl2, ?_, f2', d2, fun hrd => ?_⟩
      · simp only [nI_0] at e2
        rcases hq with ⟨rfl, hq⟩ | ⟨rfl, k, hk, hq⟩
        · have : rdP A t c = true := by
            rw [rdP_iff]; exact ⟨hsm, fun o ho => (hq o ho).1⟩
          rw [this]
          have hst' := hst.mpr hsm
          clear d1 d x x1 d2 hq this hr hst
          generalize smC c = s at *
          subst hsm
          simp (disch := first | assumption | omega) [f_Ma_readyWithMore, body_Ma_readyWithMore, j_meth, j_out, j_rok, j_pad, lg_sl, s_seq_w, isN_inl, isN_inr, s_if, jb, x_c, x_iloc, x_aloc, x_lloc, x_bin, x_un, o_add, o_sub, o_mul, o_and, o_or, o_xor, o_shl, o_shr, o_ushr, o_max, o_min, o_i2b, o_i2c, o_i2l, o_l2i, x_fld, j_fget, x_idx, j_aget, x_len, j_alen, x_ofb, x_ite, xs_nil, xs_cons, x_callv, x_calls, s_callv, s_calls, j_recv, j_ret, j_retv, b_cmp, b_and, b_or, b_not, b_ofi, b_ite, b_true, s_skip, s_set, j_ty, j_lset, j_kill, s_inc, s_fput, j_fput, s_fop, s_aput, j_aput, j_nar, s_aop, s_ret, s_retv, s_go, s_pop, x_linc, x_finc, Value.category, if_icmp.holds, List.flatMap_cons, List.flatMap_nil, List.length_cons, List.length_append, List.length_nil, List.set_cons_succ, List.set_cons_zero, List.getElem?_cons_succ, List.getElem?_cons_zero, List.replicate, ite_and', ite_or', ite_int', nI_leI, nI_ltI, nI_eq, nI_add, nI_1, pk_mul, nI_clamp, n_in', nI_pos', nI_pos, n_m1e, n_01, n_10, sT_1, sR_1_0, sR_1_1, sR_1_2, sR_1_3, sR_1_4, sR_1_5, sR_1_6, sR_1_7, sR_1_8, sR_1_9, sT_2, sT_3, sT_4, sT_5, sT_6, sT_7, sT_8, sT_9, sT_10, sT_11, sT_12, sT_13, sT_14, sR_2_1, sR_2_2, sR_2_3, sR_2_4, sR_2_5, sR_2_6, sR_2_7, sR_2_8, sR_2_9, sR_2_10, sR_2_11, sR_2_12, sT_15, sT_16, sT_17, sT_18, sT_19, sT_20, sT_21, sT_22, sT_23, sR_15_1, sR_15_2, sR_15_3, sR_15_4, sR_15_5, sR_15_6, sR_15_7, sR_15_8, sT_24, sT_25, sT_26, sT_27, sT_28, sT_29, sR_24_1, sR_24_2, sR_24_3, sR_24_4, sR_24_5, sT_71, sT_72, sR_71_0, sR_71_1, sR_71_2, sR_71_3, sR_71_4, sT_73, sT_74, sT_75, sR_73_0, sR_73_1, sR_73_2, sR_73_3, sR_73_4, sR_73_5, sT_84, sT_85, sT_86, sT_87, sR_84_0, sR_84_1, sR_84_2, sR_84_3, sR_84_4, sR_84_5, sT_88, sT_89, sR_88_0, sT_90, sT_91, sR_90_0, nI_0, e1, e2]
          rfl
        · have : rdP A t c = false := by
            cases hh : rdP A t c with
            | false => rfl
            | true => exact absurd ((rdP_iff.mp hh).2 k hk) hq
          rw [this]
          clear d1 d x x1 d2 hq this hr hst
          generalize smC c = s at *
          subst hsm
          simp (disch := first | assumption | omega) [f_Ma_readyWithMore, body_Ma_readyWithMore, j_meth, j_out, j_rok, j_pad, lg_sl, s_seq_w, isN_inl, isN_inr, s_if, jb, x_c, x_iloc, x_aloc, x_lloc, x_bin, x_un, o_add, o_sub, o_mul, o_and, o_or, o_xor, o_shl, o_shr, o_ushr, o_max, o_min, o_i2b, o_i2c, o_i2l, o_l2i, x_fld, j_fget, x_idx, j_aget, x_len, j_alen, x_ofb, x_ite, xs_nil, xs_cons, x_callv, x_calls, s_callv, s_calls, j_recv, j_ret, j_retv, b_cmp, b_and, b_or, b_not, b_ofi, b_ite, b_true, s_skip, s_set, j_ty, j_lset, j_kill, s_inc, s_fput, j_fput, s_fop, s_aput, j_aput, j_nar, s_aop, s_ret, s_retv, s_go, s_pop, x_linc, x_finc, Value.category, if_icmp.holds, List.flatMap_cons, List.flatMap_nil, List.length_cons, List.length_append, List.length_nil, List.set_cons_succ, List.set_cons_zero, List.getElem?_cons_succ, List.getElem?_cons_zero, List.replicate, ite_and', ite_or', ite_int', nI_leI, nI_ltI, nI_eq, nI_add, nI_1, pk_mul, nI_clamp, n_in', nI_pos', nI_pos, n_m1e, n_01, n_10, sT_1, sR_1_0, sR_1_1, sR_1_2, sR_1_3, sR_1_4, sR_1_5, sR_1_6, sR_1_7, sR_1_8, sR_1_9, sT_2, sT_3, sT_4, sT_5, sT_6, sT_7, sT_8, sT_9, sT_10, sT_11, sT_12, sT_13, sT_14, sR_2_1, sR_2_2, sR_2_3, sR_2_4, sR_2_5, sR_2_6, sR_2_7, sR_2_8, sR_2_9, sR_2_10, sR_2_11, sR_2_12, sT_15, sT_16, sT_17, sT_18, sT_19, sT_20, sT_21, sT_22, sT_23, sR_15_1, sR_15_2, sR_15_3, sR_15_4, sR_15_5, sR_15_6, sR_15_7, sR_15_8, sT_24, sT_25, sT_26, sT_27, sT_28, sT_29, sR_24_1, sR_24_2, sR_24_3, sR_24_4, sR_24_5, sT_71, sT_72, sR_71_0, sR_71_1, sR_71_2, sR_71_3, sR_71_4, sT_73, sT_74, sT_75, sR_73_0, sR_73_1, sR_73_2, sR_73_3, sR_73_4, sR_73_5, sT_84, sT_85, sT_86, sT_87, sR_84_0, sR_84_1, sR_84_2, sR_84_3, sR_84_4, sR_84_5, sT_88, sT_89, sR_88_0, sT_90, sT_91, sR_90_0, nI_0, e1, e2]
      · rcases hq with ⟨-, hq⟩ | ⟨-, k, hk, hq⟩
        · refine ⟨MK_fr x f2' fun a j q => Wrd_cC q, fun o ho => ⟨mvC_lt c o, ?_, (d2 o ho).2.2.2.2.2 _ (mvC_lt c o) (hq o ho).2⟩⟩
          rw [Fr_I f2 fun q => by have := Wds_lt q; omega]
          exact c1 o ho
        · exact absurd ((rdP_iff.mp hrd).2 k hk) hq
    · rintro o st ho ⟨h2, bl2, rfl, f2, d2, c2⟩
      have hs2 := Fr_shape hs1 f2
      have x2 : MK A h2 := MK_fr x1 f2 fun a j q => Wds_cC q
      have g72 : hI h2 72 o = nI (mvC c o) := by
        rw [Fr_I f2 fun q => by have := Wds_lt q; omega]
        exact c1 o ho
      have ml := mvC_lt c o
      have hgt : ((0 : Int32) < nI (mvC c o)) = (0 < mvC c o) := by
        rw [show (0 : Int32) = nI 0 from rfl, nI_ltI (by omega) (by omega)]
      have n0 : dA o ≠ 0 := by unfold dA; omega
      by_cases hm : mvC c o = 0
      · left
        obtain ⟨h3, e3, f3, t3⟩ := e_D_ready x2.1 ho (d2 o ho).1 (l := mvC c o) ml (d2 o ho).2
        have d3 := DK_1 ho d2 f3 t3
        have hs3 := Fr_shape hs2 f3
        refine ⟨([.ref 71, .int (nI c), .int (nI t), .int (nI (smC c)), .int (nI (o + 1))], h3), ?_, h3, _, rfl, Fr_trans f2 (Fr_mono f3 fun a j q => ⟨o, ho, q⟩), d3, fun k hk => ?_⟩
        · obtain ⟨t1, -, -, -, -, -, -, -, -, r30⟩ := DSh_of hs2 ho
          have t30 := sT_30 hs2
          have hng : ((0 : Int32) < nI (mvC c o)) = False := by rw [hgt]; simp [hm]
          clear d1 d x x1 d2 d3 t3 f3 f2 x2 c2 hm hgt hr
          generalize dA o = D at *
          generalize mvC c o = M at *
          generalize smC c = s at *
          simp (disch := first | assumption | omega) [lstp, lc_Ma_readyWithMore_2, lb_Ma_readyWithMore_2, lu_Ma_readyWithMore_2, j_meth, j_out, j_rok, j_pad, lg_sl, s_seq_w, isN_inl, isN_inr, s_if, jb, x_c, x_iloc, x_aloc, x_lloc, x_bin, x_un, o_add, o_sub, o_mul, o_and, o_or, o_xor, o_shl, o_shr, o_ushr, o_max, o_min, o_i2b, o_i2c, o_i2l, o_l2i, x_fld, j_fget, x_idx, j_aget, x_len, j_alen, x_ofb, x_ite, xs_nil, xs_cons, x_callv, x_calls, s_callv, s_calls, j_recv, j_ret, j_retv, b_cmp, b_and, b_or, b_not, b_ofi, b_ite, b_true, s_skip, s_set, j_ty, j_lset, j_kill, s_inc, s_fput, j_fput, s_fop, s_aput, j_aput, j_nar, s_aop, s_ret, s_retv, s_go, s_pop, x_linc, x_finc, Value.category, if_icmp.holds, List.flatMap_cons, List.flatMap_nil, List.length_cons, List.length_append, List.length_nil, List.set_cons_succ, List.set_cons_zero, List.getElem?_cons_succ, List.getElem?_cons_zero, List.replicate, ite_and', ite_or', ite_int', nI_leI, nI_ltI, nI_eq, nI_add, nI_1, pk_mul, nI_clamp, n_in', nI_pos', nI_pos, n_m1e, n_01, n_10, sT_1, sR_1_0, sR_1_1, sR_1_2, sR_1_3, sR_1_4, sR_1_5, sR_1_6, sR_1_7, sR_1_8, sR_1_9, sT_2, sT_3, sT_4, sT_5, sT_6, sT_7, sT_8, sT_9, sT_10, sT_11, sT_12, sT_13, sT_14, sR_2_1, sR_2_2, sR_2_3, sR_2_4, sR_2_5, sR_2_6, sR_2_7, sR_2_8, sR_2_9, sR_2_10, sR_2_11, sR_2_12, sT_15, sT_16, sT_17, sT_18, sT_19, sT_20, sT_21, sT_22, sT_23, sR_15_1, sR_15_2, sR_15_3, sR_15_4, sR_15_5, sR_15_6, sR_15_7, sR_15_8, sT_24, sT_25, sT_26, sT_27, sT_28, sT_29, sR_24_1, sR_24_2, sR_24_3, sR_24_4, sR_24_5, sT_71, sT_72, sR_71_0, sR_71_1, sR_71_2, sR_71_3, sR_71_4, sT_73, sT_74, sT_75, sR_73_0, sR_73_1, sR_73_2, sR_73_3, sR_73_4, sR_73_5, sT_84, sT_85, sT_86, sT_87, sR_84_0, sR_84_1, sR_84_2, sR_84_3, sR_84_4, sR_84_5, sT_88, sT_89, sR_88_0, sT_90, sT_91, sR_90_0, ho, g72, hng, t30, r30, n0, t1, e3]
        · by_cases e : k = o
          · subst e
            refine ⟨Or.inl hm, ?_⟩
            simp only [if_true]
            rw [Nat.testBit_or, Nat.testBit_two_pow_self, Bool.or_true]
          · simp only [if_neg e]
            exact c2 k (by omega)
      · obtain ⟨h3, bl3, e3, f3, t3, sb3⟩ := e_D_gainsBy x2.1 ho (d2 o ho).1 (d2 o ho).2 (l := mvC c o) ml (by omega)
        have d3 := DK_1 ho d2 f3 t3
        have hs3 := Fr_shape hs2 f3
        have hg : ((0 : Int32) < nI (mvC c o)) = True := by rw [hgt]; simp; omega
        by_cases hgn : gnB A o (mvC c o) = true
        · left
          rw [if_pos hgn] at e3
          have x3 : MK A h3 := MK_fr x2 f3 fun a j q => Wdk_cC ho q
          obtain ⟨h4, e4, f4, t4⟩ := e_D_ready x3.1 ho (d3 o ho).1 (l := mvC c o) ml (d3 o ho).2
          have d4 := DK_1 ho d3 f4 t4
          have hs4 := Fr_shape hs3 f4
          have g723 : hI h3 72 o = nI (mvC c o) := by
            rw [Fr_I f3 fun q => by have := Wdk_lt ho q; omega]
            exact g72
          refine ⟨([.ref 71, .int (nI c), .int (nI t), .int (nI (smC c)), .int (nI (o + 1))], h4), ?_, h4, _, rfl, Fr_trans f2 (Fr_mono (Fr_trans f3 f4) fun a j q => ⟨o, ho, q⟩), d4, fun k hk => ?_⟩
          · obtain ⟨t1, -, -, -, -, -, -, -, -, r30⟩ := DSh_of hs2 ho
            obtain ⟨u1, -, -, -, -, -, -, -, -, u30⟩ := DSh_of hs3 ho
            have t30 := sT_30 hs2
            have u30' := sT_30 hs3
            have h10 : ((1 : Int32) = 0) = False := by decide
            clear d1 d x x1 d2 d3 d4 t3 t4 f3 f4 f2 x2 x3 c2 hm hgt hr hgn sb3
            generalize dA o = D at *
            generalize mvC c o = M at *
            generalize smC c = s at *
            simp (disch := first | assumption | omega) [lstp, lc_Ma_readyWithMore_2, lb_Ma_readyWithMore_2, lu_Ma_readyWithMore_2, j_meth, j_out, j_rok, j_pad, lg_sl, s_seq_w, isN_inl, isN_inr, s_if, jb, x_c, x_iloc, x_aloc, x_lloc, x_bin, x_un, o_add, o_sub, o_mul, o_and, o_or, o_xor, o_shl, o_shr, o_ushr, o_max, o_min, o_i2b, o_i2c, o_i2l, o_l2i, x_fld, j_fget, x_idx, j_aget, x_len, j_alen, x_ofb, x_ite, xs_nil, xs_cons, x_callv, x_calls, s_callv, s_calls, j_recv, j_ret, j_retv, b_cmp, b_and, b_or, b_not, b_ofi, b_ite, b_true, s_skip, s_set, j_ty, j_lset, j_kill, s_inc, s_fput, j_fput, s_fop, s_aput, j_aput, j_nar, s_aop, s_ret, s_retv, s_go, s_pop, x_linc, x_finc, Value.category, if_icmp.holds, List.flatMap_cons, List.flatMap_nil, List.length_cons, List.length_append, List.length_nil, List.set_cons_succ, List.set_cons_zero, List.getElem?_cons_succ, List.getElem?_cons_zero, List.replicate, ite_and', ite_or', ite_int', nI_leI, nI_ltI, nI_eq, nI_add, nI_1, pk_mul, nI_clamp, n_in', nI_pos', nI_pos, n_m1e, n_01, n_10, sT_1, sR_1_0, sR_1_1, sR_1_2, sR_1_3, sR_1_4, sR_1_5, sR_1_6, sR_1_7, sR_1_8, sR_1_9, sT_2, sT_3, sT_4, sT_5, sT_6, sT_7, sT_8, sT_9, sT_10, sT_11, sT_12, sT_13, sT_14, sR_2_1, sR_2_2, sR_2_3, sR_2_4, sR_2_5, sR_2_6, sR_2_7, sR_2_8, sR_2_9, sR_2_10, sR_2_11, sR_2_12, sT_15, sT_16, sT_17, sT_18, sT_19, sT_20, sT_21, sT_22, sT_23, sR_15_1, sR_15_2, sR_15_3, sR_15_4, sR_15_5, sR_15_6, sR_15_7, sR_15_8, sT_24, sT_25, sT_26, sT_27, sT_28, sT_29, sR_24_1, sR_24_2, sR_24_3, sR_24_4, sR_24_5, sT_71, sT_72, sR_71_0, sR_71_1, sR_71_2, sR_71_3, sR_71_4, sT_73, sT_74, sT_75, sR_73_0, sR_73_1, sR_73_2, sR_73_3, sR_73_4, sR_73_5, sT_84, sT_85, sT_86, sT_87, sR_84_0, sR_84_1, sR_84_2, sR_84_3, sR_84_4, sR_84_5, sT_88, sT_89, sR_88_0, sT_90, sT_91, sR_90_0, ho, g72, g723, hg, t30, u30', r30, u30, n0, t1, u1, e3, h10, e4]
          · by_cases e : k = o
            · subst e
              refine ⟨Or.inr hgn, ?_⟩
              simp only [if_true]
              rw [Nat.testBit_or, Nat.testBit_two_pow_self, Bool.or_true]
            · simp only [if_neg e]
              exact c2 k (by omega)
        · right
          rw [if_neg hgn] at e3
          refine ⟨(.inr (some (.int 0)), ([.ref 71, .int (nI c), .int (nI t), .int (nI (smC c)), .int (nI o)], h3)), ?_, h3, _, _, Or.inr ⟨rfl, o, ho, fun q => q.elim hm hgn⟩, Fr_trans f2 (Fr_mono f3 fun a j q => ⟨o, ho, q⟩), d3⟩
          obtain ⟨t1, -, -, -, -, -, -, -, -, r30⟩ := DSh_of hs2 ho
          have t30 := sT_30 hs2
          clear d1 d x x1 d2 d3 t3 f3 f2 x2 c2 hm hgt hr hgn sb3
          generalize dA o = D at *
          generalize mvC c o = M at *
          generalize smC c = s at *
          simp (disch := first | assumption | omega) [lstp, lc_Ma_readyWithMore_2, lb_Ma_readyWithMore_2, lu_Ma_readyWithMore_2, j_meth, j_out, j_rok, j_pad, lg_sl, s_seq_w, isN_inl, isN_inr, s_if, jb, x_c, x_iloc, x_aloc, x_lloc, x_bin, x_un, o_add, o_sub, o_mul, o_and, o_or, o_xor, o_shl, o_shr, o_ushr, o_max, o_min, o_i2b, o_i2c, o_i2l, o_l2i, x_fld, j_fget, x_idx, j_aget, x_len, j_alen, x_ofb, x_ite, xs_nil, xs_cons, x_callv, x_calls, s_callv, s_calls, j_recv, j_ret, j_retv, b_cmp, b_and, b_or, b_not, b_ofi, b_ite, b_true, s_skip, s_set, j_ty, j_lset, j_kill, s_inc, s_fput, j_fput, s_fop, s_aput, j_aput, j_nar, s_aop, s_ret, s_retv, s_go, s_pop, x_linc, x_finc, Value.category, if_icmp.holds, List.flatMap_cons, List.flatMap_nil, List.length_cons, List.length_append, List.length_nil, List.set_cons_succ, List.set_cons_zero, List.getElem?_cons_succ, List.getElem?_cons_zero, List.replicate, ite_and', ite_or', ite_int', nI_leI, nI_ltI, nI_eq, nI_add, nI_1, pk_mul, nI_clamp, n_in', nI_pos', nI_pos, n_m1e, n_01, n_10, sT_1, sR_1_0, sR_1_1, sR_1_2, sR_1_3, sR_1_4, sR_1_5, sR_1_6, sR_1_7, sR_1_8, sR_1_9, sT_2, sT_3, sT_4, sT_5, sT_6, sT_7, sT_8, sT_9, sT_10, sT_11, sT_12, sT_13, sT_14, sR_2_1, sR_2_2, sR_2_3, sR_2_4, sR_2_5, sR_2_6, sR_2_7, sR_2_8, sR_2_9, sR_2_10, sR_2_11, sR_2_12, sT_15, sT_16, sT_17, sT_18, sT_19, sT_20, sT_21, sT_22, sT_23, sR_15_1, sR_15_2, sR_15_3, sR_15_4, sR_15_5, sR_15_6, sR_15_7, sR_15_8, sT_24, sT_25, sT_26, sT_27, sT_28, sT_29, sR_24_1, sR_24_2, sR_24_3, sR_24_4, sR_24_5, sT_71, sT_72, sR_71_0, sR_71_1, sR_71_2, sR_71_3, sR_71_4, sT_73, sT_74, sT_75, sR_73_0, sR_73_1, sR_73_2, sR_73_3, sR_73_4, sR_73_5, sT_84, sT_85, sT_86, sT_87, sR_84_0, sR_84_1, sR_84_2, sR_84_3, sR_84_4, sR_84_5, sT_88, sT_89, sR_88_0, sT_90, sT_91, sR_90_0, ho, g72, hg, t30, r30, n0, t1, e3, nI_0]
    · rintro st ⟨h2, bl2, rfl, f2, d2, c2⟩
      have hs2 := Fr_shape hs1 f2
      refine ⟨(.inl 0, ([.ref 71, .int (nI c), .int (nI t), .int (nI (smC c)), .int (nI 4)], h2)), ?_, h2, bl2, _, Or.inl ⟨rfl, c2⟩, f2, d2⟩
      generalize smC c = s at *
      clear d1 d x x1 d2 c2 f2 c1
      simp (disch := first | assumption | omega) [lstp, lc_Ma_readyWithMore_2, lb_Ma_readyWithMore_2, lu_Ma_readyWithMore_2, j_meth, j_out, j_rok, j_pad, lg_sl, s_seq_w, isN_inl, isN_inr, s_if, jb, x_c, x_iloc, x_aloc, x_lloc, x_bin, x_un, o_add, o_sub, o_mul, o_and, o_or, o_xor, o_shl, o_shr, o_ushr, o_max, o_min, o_i2b, o_i2c, o_i2l, o_l2i, x_fld, j_fget, x_idx, j_aget, x_len, j_alen, x_ofb, x_ite, xs_nil, xs_cons, x_callv, x_calls, s_callv, s_calls, j_recv, j_ret, j_retv, b_cmp, b_and, b_or, b_not, b_ofi, b_ite, b_true, s_skip, s_set, j_ty, j_lset, j_kill, s_inc, s_fput, j_fput, s_fop, s_aput, j_aput, j_nar, s_aop, s_ret, s_retv, s_go, s_pop, x_linc, x_finc, Value.category, if_icmp.holds, List.flatMap_cons, List.flatMap_nil, List.length_cons, List.length_append, List.length_nil, List.set_cons_succ, List.set_cons_zero, List.getElem?_cons_succ, List.getElem?_cons_zero, List.replicate, ite_and', ite_or', ite_int', nI_leI, nI_ltI, nI_eq, nI_add, nI_1, pk_mul, nI_clamp, n_in', nI_pos', nI_pos, n_m1e, n_01, n_10, sT_1, sR_1_0, sR_1_1, sR_1_2, sR_1_3, sR_1_4, sR_1_5, sR_1_6, sR_1_7, sR_1_8, sR_1_9, sT_2, sT_3, sT_4, sT_5, sT_6, sT_7, sT_8, sT_9, sT_10, sT_11, sT_12, sT_13, sT_14, sR_2_1, sR_2_2, sR_2_3, sR_2_4, sR_2_5, sR_2_6, sR_2_7, sR_2_8, sR_2_9, sR_2_10, sR_2_11, sR_2_12, sT_15, sT_16, sT_17, sT_18, sT_19, sT_20, sT_21, sT_22, sT_23, sR_15_1, sR_15_2, sR_15_3, sR_15_4, sR_15_5, sR_15_6, sR_15_7, sR_15_8, sT_24, sT_25, sT_26, sT_27, sT_28, sT_29, sR_24_1, sR_24_2, sR_24_3, sR_24_4, sR_24_5, sT_71, sT_72, sR_71_0, sR_71_1, sR_71_2, sR_71_3, sR_71_4, sT_73, sT_74, sT_75, sR_73_0, sR_73_1, sR_73_2, sR_73_3, sR_73_4, sR_73_5, sT_84, sT_85, sT_86, sT_87, sR_84_0, sR_84_1, sR_84_2, sR_84_3, sR_84_4, sR_84_5, sT_88, sT_89, sR_88_0, sT_90, sT_91, sR_90_0]
  · rintro o st ho ⟨h1, rfl, f1, c1⟩
    left
    have hs1 := Fr_shape hs f1
    have e := mvC_n hc ho
    have hsub : nI 3 - nI o = nI (3 - o) := pk_sub (by omega)
    have es : smK c (o + 1) = smK c o + mvC c o := rfl
    have g72 : hI (hSetI h1 72 o (nI (mvC c o))) 72 o = nI (mvC c o) := by rw [hI_setI, if_pos ⟨rfl, rfl⟩]
    refine ⟨([.ref 71, .int (nI c), .int (nI t), .int (nI (smK c (o + 1))), .int (nI (o + 1))], hSetI h1 72 o (nI (mvC c o))), ?_, _, rfl, Fr_trans f1 (Fr_set _ rfl), fun k hk => ?_⟩
    · rw [es]
      have hs2 : Shape (hSetI h1 72 o (nI (mvC c o))) := hs1
      clear d x c1 f1
      generalize hh2 : hSetI h1 72 o (nI (mvC c o)) = h2 at *
      generalize mvC c o = M at *
      generalize smK c o = s at *
      have ho3 : 2 * (3 - o) < 2 ^ 31 := by omega
      have hm2 : nI 2 * nI (3 - o) = nI (2 * (3 - o)) := pk_mul _ _
      simp (disch := first | assumption | omega) [lstp, lc_Ma_readyWithMore_1, lb_Ma_readyWithMore_1, lu_Ma_readyWithMore_1, j_meth, j_out, j_rok, j_pad, lg_sl, s_seq_w, isN_inl, isN_inr, s_if, jb, x_c, x_iloc, x_aloc, x_lloc, x_bin, x_un, o_add, o_sub, o_mul, o_and, o_or, o_xor, o_shl, o_shr, o_ushr, o_max, o_min, o_i2b, o_i2c, o_i2l, o_l2i, x_fld, j_fget, x_idx, j_aget, x_len, j_alen, x_ofb, x_ite, xs_nil, xs_cons, x_callv, x_calls, s_callv, s_calls, j_recv, j_ret, j_retv, b_cmp, b_and, b_or, b_not, b_ofi, b_ite, b_true, s_skip, s_set, j_ty, j_lset, j_kill, s_inc, s_fput, j_fput, s_fop, s_aput, j_aput, j_nar, s_aop, s_ret, s_retv, s_go, s_pop, x_linc, x_finc, Value.category, if_icmp.holds, List.flatMap_cons, List.flatMap_nil, List.length_cons, List.length_append, List.length_nil, List.set_cons_succ, List.set_cons_zero, List.getElem?_cons_succ, List.getElem?_cons_zero, List.replicate, ite_and', ite_or', ite_int', nI_leI, nI_ltI, nI_eq, nI_add, nI_1, pk_mul, nI_clamp, n_in', nI_pos', nI_pos, n_m1e, n_01, n_10, sT_1, sR_1_0, sR_1_1, sR_1_2, sR_1_3, sR_1_4, sR_1_5, sR_1_6, sR_1_7, sR_1_8, sR_1_9, sT_2, sT_3, sT_4, sT_5, sT_6, sT_7, sT_8, sT_9, sT_10, sT_11, sT_12, sT_13, sT_14, sR_2_1, sR_2_2, sR_2_3, sR_2_4, sR_2_5, sR_2_6, sR_2_7, sR_2_8, sR_2_9, sR_2_10, sR_2_11, sR_2_12, sT_15, sT_16, sT_17, sT_18, sT_19, sT_20, sT_21, sT_22, sT_23, sR_15_1, sR_15_2, sR_15_3, sR_15_4, sR_15_5, sR_15_6, sR_15_7, sR_15_8, sT_24, sT_25, sT_26, sT_27, sT_28, sT_29, sR_24_1, sR_24_2, sR_24_3, sR_24_4, sR_24_5, sT_71, sT_72, sR_71_0, sR_71_1, sR_71_2, sR_71_3, sR_71_4, sT_73, sT_74, sT_75, sR_73_0, sR_73_1, sR_73_2, sR_73_3, sR_73_4, sR_73_5, sT_84, sT_85, sT_86, sT_87, sR_84_0, sR_84_1, sR_84_2, sR_84_3, sR_84_4, sR_84_5, sT_88, sT_89, sR_88_0, sT_90, sT_91, sR_90_0, ho, hsub, hm2, e, hh2, g72]
    · rw [hI_setI]
      by_cases q : k = o
      · rw [if_pos ⟨rfl, q⟩, q]
      · rw [if_neg (fun z => q z.2)]
        exact c1 k (by omega)
  · rintro st ⟨h1, rfl, f1, c1⟩
    refine ⟨_, ?_, h1, rfl, f1, c1⟩
    generalize smK c 4 = s at *
    clear d x c1 f1
    simp (disch := first | assumption | omega) [lstp, lc_Ma_readyWithMore_1, lb_Ma_readyWithMore_1, lu_Ma_readyWithMore_1, j_meth, j_out, j_rok, j_pad, lg_sl, s_seq_w, isN_inl, isN_inr, s_if, jb, x_c, x_iloc, x_aloc, x_lloc, x_bin, x_un, o_add, o_sub, o_mul, o_and, o_or, o_xor, o_shl, o_shr, o_ushr, o_max, o_min, o_i2b, o_i2c, o_i2l, o_l2i, x_fld, j_fget, x_idx, j_aget, x_len, j_alen, x_ofb, x_ite, xs_nil, xs_cons, x_callv, x_calls, s_callv, s_calls, j_recv, j_ret, j_retv, b_cmp, b_and, b_or, b_not, b_ofi, b_ite, b_true, s_skip, s_set, j_ty, j_lset, j_kill, s_inc, s_fput, j_fput, s_fop, s_aput, j_aput, j_nar, s_aop, s_ret, s_retv, s_go, s_pop, x_linc, x_finc, Value.category, if_icmp.holds, List.flatMap_cons, List.flatMap_nil, List.length_cons, List.length_append, List.length_nil, List.set_cons_succ, List.set_cons_zero, List.getElem?_cons_succ, List.getElem?_cons_zero, List.replicate, ite_and', ite_or', ite_int', nI_leI, nI_ltI, nI_eq, nI_add, nI_1, pk_mul, nI_clamp, n_in', nI_pos', nI_pos, n_m1e, n_01, n_10, sT_1, sR_1_0, sR_1_1, sR_1_2, sR_1_3, sR_1_4, sR_1_5, sR_1_6, sR_1_7, sR_1_8, sR_1_9, sT_2, sT_3, sT_4, sT_5, sT_6, sT_7, sT_8, sT_9, sT_10, sT_11, sT_12, sT_13, sT_14, sR_2_1, sR_2_2, sR_2_3, sR_2_4, sR_2_5, sR_2_6, sR_2_7, sR_2_8, sR_2_9, sR_2_10, sR_2_11, sR_2_12, sT_15, sT_16, sT_17, sT_18, sT_19, sT_20, sT_21, sT_22, sT_23, sR_15_1, sR_15_2, sR_15_3, sR_15_4, sR_15_5, sR_15_6, sR_15_7, sR_15_8, sT_24, sT_25, sT_26, sT_27, sT_28, sT_29, sR_24_1, sR_24_2, sR_24_3, sR_24_4, sR_24_5, sT_71, sT_72, sR_71_0, sR_71_1, sR_71_2, sR_71_3, sR_71_4, sT_73, sT_74, sT_75, sR_73_0, sR_73_1, sR_73_2, sR_73_3, sR_73_4, sR_73_5, sT_84, sT_85, sT_86, sT_87, sR_84_0, sR_84_1, sR_84_2, sR_84_3, sR_84_4, sR_84_5, sT_88, sT_89, sR_88_0, sT_90, sT_91, sR_90_0]
/-- the way through all codes and totals -/
def WplS (a j : Nat) : Prop := Wrd a j ∨ Wpr a j
theorem WplS_ok {a j : Nat} (q : WplS a j) : okW a j := q.elim Wrd_ok Wpr_ok
def InP (A : AS) (ca : Nat → Nat) (h0 h : jHp) : Prop := Fr Wrd h0 h ∧ ∃ bl, DK A ca bl h
theorem InP_W {A : AS} {ca : Nat → Nat} {h0 h : jHp} (p : WPr A (nI 2) h0) (hs : Shape h0) (i : InP A ca h0 h) : WPr A (nI 2) h := by
  obtain ⟨p7, p8, p9, p10, p12, pl⟩ := p
  have hw : ∀ a j, Wrd a j → a ≤ 72 := fun a j q => by
    rcases q with z | z
    · have := Wds_lt z; omega
    · omega
  have e73 : ∀ j, hI h 73 j = hI h0 73 j := fun j => Fr_I i.1 fun q => by have := hw _ _ q; omega
  refine ⟨by rw [e73]; exact p7, by rw [e73]; exact p8, by rw [e73]; exact p9, by rw [e73]; exact p10, by rw [e73]; exact p12, WLv_g hs pl (FG_Fr (U := fun _ _ => False) i.1) fun a j q => ?_⟩
  have := hw _ _ q
  omega
theorem e_pl_3 {A : AS} {h : jHp} {c : Nat} (w : WF A) (hs : Shape h) (c11 : hI h 1 11 = nI (aNo A)) (c72 : ∀ k, k < 4 → hI h 72 k = nI (mvC c k)) (cr : CRw [] h) (x1 x2 : Int32) : ∃ h', s_loop 5 6 lc_S_places_3 lb_S_places_3 lu_S_places_3 ([.ref 1, .int x1, .int x2, .int (nI 0)], h) = some (.inl 0, ([.ref 1, .int x1, .int x2, .int (nI (aNo A))], h')) ∧ Fr W90 h h' ∧ CRw ((rowC (aNo A) c).map nI) h' := by
  have hno := w.2.1
  have hL := loop_wp (lb := 5) (lc := 6) (c := lc_S_places_3) (b := lb_S_places_3) (u := lu_S_places_3) (aNo A)
    (fun i st => ∃ h', st = ([.ref 1, .int x1, .int x2, .int (nI i)], h') ∧ Fr W90 h h' ∧ CRw ((rowC (aNo A) c).take i |>.map nI) h')
    (fun r => ∃ h', r = (.inl 0, ([.ref 1, .int x1, .int x2, .int (nI (aNo A))], h')) ∧ Fr W90 h h' ∧ CRw ((rowC (aNo A) c).take (aNo A) |>.map nI) h')
    ?_ ?_ ([.ref 1, .int x1, .int x2, .int (nI 0)], h) ⟨h, rfl, Fr_refl _ _, by simpa using cr⟩
  · obtain ⟨r, e, h1, rfl, f1, c1⟩ := hL
    rw [List.take_of_length_le (by rw [rowC_len]; exact Nat.le_refl _)] at c1
    exact ⟨h1, e, f1, c1⟩
  · rintro i st hi ⟨h1, rfl, f1, c1⟩
    left
    have hs1 := Fr_shape hs f1
    have hl := rowC_len (aNo A) c
    obtain ⟨h2, e2, f2, c2⟩ := e_R_add hs1 c1 (by simp; omega) (nI ((rowC (aNo A) c).getD i 0))
    refine ⟨([.ref 1, .int x1, .int x2, .int (nI (i + 1))], h2), ?_, h2, rfl, Fr_trans f1 f2, by rw [take_succ_map (by omega)]; exact c2⟩
    have hs2 := Fr_shape hs1 f2
    have g := c72 i (by omega)
    rw [← rowC_get (n := aNo A) hi] at g
    have g1 : hI h1 72 i = nI ((rowC (aNo A) c).getD i 0) := by
      rw [Fr_I f1 fun q => by unfold W90 at q; omega]; exact g
    have k11 : hI h1 1 11 = nI (aNo A) := by
      rw [Fr_I f1 fun q => by unfold W90 at q; omega]; exact c11
    have hi4 : i < 4 := by omega
    clear c1 c2 f1 f2 g
    generalize (rowC (aNo A) c).getD i 0 = V at *
    simp (disch := first | assumption | omega) [lstp, lc_S_places_3, lb_S_places_3, lu_S_places_3, j_meth, j_out, j_rok, j_pad, lg_sl, s_seq_w, isN_inl, isN_inr, s_if, jb, x_c, x_iloc, x_aloc, x_lloc, x_bin, x_un, o_add, o_sub, o_mul, o_and, o_or, o_xor, o_shl, o_shr, o_ushr, o_max, o_min, o_i2b, o_i2c, o_i2l, o_l2i, x_fld, j_fget, x_idx, j_aget, x_len, j_alen, x_ofb, x_ite, xs_nil, xs_cons, x_callv, x_calls, s_callv, s_calls, j_recv, j_ret, j_retv, b_cmp, b_and, b_or, b_not, b_ofi, b_ite, b_true, s_skip, s_set, j_ty, j_lset, j_kill, s_inc, s_fput, j_fput, s_fop, s_aput, j_aput, j_nar, s_aop, s_ret, s_retv, s_go, s_pop, x_linc, x_finc, Value.category, if_icmp.holds, List.flatMap_cons, List.flatMap_nil, List.length_cons, List.length_append, List.length_nil, List.set_cons_succ, List.set_cons_zero, List.getElem?_cons_succ, List.getElem?_cons_zero, List.replicate, ite_and', ite_or', ite_int', nI_leI, nI_ltI, nI_eq, nI_add, nI_1, pk_mul, nI_clamp, n_in', nI_pos', nI_pos, n_m1e, n_01, n_10, sT_1, sR_1_0, sR_1_1, sR_1_2, sR_1_3, sR_1_4, sR_1_5, sR_1_6, sR_1_7, sR_1_8, sR_1_9, sT_2, sT_3, sT_4, sT_5, sT_6, sT_7, sT_8, sT_9, sT_10, sT_11, sT_12, sT_13, sT_14, sR_2_1, sR_2_2, sR_2_3, sR_2_4, sR_2_5, sR_2_6, sR_2_7, sR_2_8, sR_2_9, sR_2_10, sR_2_11, sR_2_12, sT_15, sT_16, sT_17, sT_18, sT_19, sT_20, sT_21, sT_22, sT_23, sR_15_1, sR_15_2, sR_15_3, sR_15_4, sR_15_5, sR_15_6, sR_15_7, sR_15_8, sT_24, sT_25, sT_26, sT_27, sT_28, sT_29, sR_24_1, sR_24_2, sR_24_3, sR_24_4, sR_24_5, sT_71, sT_72, sR_71_0, sR_71_1, sR_71_2, sR_71_3, sR_71_4, sT_73, sT_74, sT_75, sR_73_0, sR_73_1, sR_73_2, sR_73_3, sR_73_4, sR_73_5, sT_84, sT_85, sT_86, sT_87, sR_84_0, sR_84_1, sR_84_2, sR_84_3, sR_84_4, sR_84_5, sT_88, sT_89, sR_88_0, sT_90, sT_91, sR_90_0, k11, hi, g1, e2]
  · rintro st ⟨h1, rfl, f1, c1⟩
    refine ⟨_, ?_, h1, rfl, f1, c1⟩
    have hs1 := Fr_shape hs f1
    have k11 : hI h1 1 11 = nI (aNo A) := by
      rw [Fr_I f1 fun q => by unfold W90 at q; omega]; exact c11
    clear c1 f1
    simp (disch := first | assumption | omega) [lstp, lc_S_places_3, lb_S_places_3, lu_S_places_3, j_meth, j_out, j_rok, j_pad, lg_sl, s_seq_w, isN_inl, isN_inr, s_if, jb, x_c, x_iloc, x_aloc, x_lloc, x_bin, x_un, o_add, o_sub, o_mul, o_and, o_or, o_xor, o_shl, o_shr, o_ushr, o_max, o_min, o_i2b, o_i2c, o_i2l, o_l2i, x_fld, j_fget, x_idx, j_aget, x_len, j_alen, x_ofb, x_ite, xs_nil, xs_cons, x_callv, x_calls, s_callv, s_calls, j_recv, j_ret, j_retv, b_cmp, b_and, b_or, b_not, b_ofi, b_ite, b_true, s_skip, s_set, j_ty, j_lset, j_kill, s_inc, s_fput, j_fput, s_fop, s_aput, j_aput, j_nar, s_aop, s_ret, s_retv, s_go, s_pop, x_linc, x_finc, Value.category, if_icmp.holds, List.flatMap_cons, List.flatMap_nil, List.length_cons, List.length_append, List.length_nil, List.set_cons_succ, List.set_cons_zero, List.getElem?_cons_succ, List.getElem?_cons_zero, List.replicate, ite_and', ite_or', ite_int', nI_leI, nI_ltI, nI_eq, nI_add, nI_1, pk_mul, nI_clamp, n_in', nI_pos', nI_pos, n_m1e, n_01, n_10, sT_1, sR_1_0, sR_1_1, sR_1_2, sR_1_3, sR_1_4, sR_1_5, sR_1_6, sR_1_7, sR_1_8, sR_1_9, sT_2, sT_3, sT_4, sT_5, sT_6, sT_7, sT_8, sT_9, sT_10, sT_11, sT_12, sT_13, sT_14, sR_2_1, sR_2_2, sR_2_3, sR_2_4, sR_2_5, sR_2_6, sR_2_7, sR_2_8, sR_2_9, sR_2_10, sR_2_11, sR_2_12, sT_15, sT_16, sT_17, sT_18, sT_19, sT_20, sT_21, sT_22, sT_23, sR_15_1, sR_15_2, sR_15_3, sR_15_4, sR_15_5, sR_15_6, sR_15_7, sR_15_8, sT_24, sT_25, sT_26, sT_27, sT_28, sT_29, sR_24_1, sR_24_2, sR_24_3, sR_24_4, sR_24_5, sT_71, sT_72, sR_71_0, sR_71_1, sR_71_2, sR_71_3, sR_71_4, sT_73, sT_74, sT_75, sR_73_0, sR_73_1, sR_73_2, sR_73_3, sR_73_4, sR_73_5, sT_84, sT_85, sT_86, sT_87, sR_84_0, sR_84_1, sR_84_2, sR_84_3, sR_84_4, sR_84_5, sT_88, sT_89, sR_88_0, sT_90, sT_91, sR_90_0, k11]
theorem e_pl_2 {A : AS} {ca : Nat → Nat} {h0 h : jHp} (mk : MK A h0) (p : WPr A (nI 2) h0) (c11 : hI h0 1 11 = nI (aNo A)) (i : InP A ca h0 h) {t : Nat} (ht : t < 4) (v3 : Value) :
    (fst1 (accC A t) 256 = none ∧ ∃ h' v, s_loop 3 4 lc_S_places_2 lb_S_places_2 lu_S_places_2 ([.ref 1, .int (nI t), .int (nI 0), v3], h) = some (.inl 0, ([.ref 1, .int (nI t), .int (nI 256), v], h')) ∧ InP A ca h0 h') ∨
    (∃ c, fst1 (accC A t) 256 = some c ∧ ∃ h1 h' st, s_loop 3 4 lc_S_places_2 lb_S_places_2 lu_S_places_2 ([.ref 1, .int (nI t), .int (nI 0), v3], h) = some (.inr (some (.int (nI t))), (st, h')) ∧ InP A ca h0 h1 ∧ Fr W90 h1 h' ∧ CRw ((rowC (aNo A) c).map nI) h') := by
  have w := mk.1.2.1
  have hs0 := mk.1.1
  have hL := loop_wp (lb := 3) (lc := 4) (c := lc_S_places_2) (b := lb_S_places_2) (u := lu_S_places_2) 256
    (fun c st => ∃ h' v, st = ([.ref 1, .int (nI t), .int (nI c), v], h') ∧ InP A ca h0 h' ∧ ∀ m, m < c → accC A t m = false)
    (fun r => (fst1 (accC A t) 256 = none ∧ ∃ h' v, r = (.inl 0, ([.ref 1, .int (nI t), .int (nI 256), v], h')) ∧ InP A ca h0 h') ∨ (∃ c, fst1 (accC A t) 256 = some c ∧ ∃ h1 h' st, r = (.inr (some (.int (nI t))), (st, h')) ∧ InP A ca h0 h1 ∧ Fr W90 h1 h' ∧ CRw ((rowC (aNo A) c).map nI) h'))
    ?_ ?_ ([.ref 1, .int (nI t), .int (nI 0), v3], h) ⟨h, v3, rfl, i, fun m hm => by omega⟩
  · obtain ⟨r, e, q⟩ := hL
    rcases q with ⟨q, h', v, rfl, i'⟩ | ⟨c, q, h1, h', st, rfl, q'⟩
    · exact Or.inl ⟨q, h', v, e, i'⟩
    · exact Or.inr ⟨c, q, h1, h', st, e, q'⟩
  · rintro c st hc ⟨h1, v, rfl, i1, hno⟩
    obtain ⟨f1, bl1, d1⟩ := i1
    have mk1 : MK A h1 := MK_fr mk f1 fun a j q => Wrd_cC q
    have hs1 := mk1.1.1
    obtain ⟨h2, bl2, e2, f2, d2, mv2⟩ := e_Ma_readyWithMore mk1 d1 hc ht
    have hs2 := Fr_shape hs1 f2
    have i2 : InP A ca h0 h2 := ⟨Fr_trans f1 f2, bl2, d2⟩
    have p2 := InP_W p hs0 i2
    cases hr : rdP A t c with
    | false =>
      left
      rw [hr] at e2
      simp only [Bool.false_eq_true, if_false] at e2
      refine ⟨([.ref 1, .int (nI t), .int (nI (c + 1)), v], h2), ?_, h2, v, rfl, i2, fun m hm => ?_⟩
      · clear mv2 d2 d1 f1 f2 p2 i2 mk mk1 hno p i
        simp (disch := first | assumption | omega) [lstp, lc_S_places_2, lb_S_places_2, lu_S_places_2, j_meth, j_out, j_rok, j_pad, lg_sl, s_seq_w, isN_inl, isN_inr, s_if, jb, x_c, x_iloc, x_aloc, x_lloc, x_bin, x_un, o_add, o_sub, o_mul, o_and, o_or, o_xor, o_shl, o_shr, o_ushr, o_max, o_min, o_i2b, o_i2c, o_i2l, o_l2i, x_fld, j_fget, x_idx, j_aget, x_len, j_alen, x_ofb, x_ite, xs_nil, xs_cons, x_callv, x_calls, s_callv, s_calls, j_recv, j_ret, j_retv, b_cmp, b_and, b_or, b_not, b_ofi, b_ite, b_true, s_skip, s_set, j_ty, j_lset, j_kill, s_inc, s_fput, j_fput, s_fop, s_aput, j_aput, j_nar, s_aop, s_ret, s_retv, s_go, s_pop, x_linc, x_finc, Value.category, if_icmp.holds, List.flatMap_cons, List.flatMap_nil, List.length_cons, List.length_append, List.length_nil, List.set_cons_succ, List.set_cons_zero, List.getElem?_cons_succ, List.getElem?_cons_zero, List.replicate, ite_and', ite_or', ite_int', nI_leI, nI_ltI, nI_eq, nI_add, nI_1, pk_mul, nI_clamp, n_in', nI_pos', nI_pos, n_m1e, n_01, n_10, sT_1, sR_1_0, sR_1_1, sR_1_2, sR_1_3, sR_1_4, sR_1_5, sR_1_6, sR_1_7, sR_1_8, sR_1_9, sT_2, sT_3, sT_4, sT_5, sT_6, sT_7, sT_8, sT_9, sT_10, sT_11, sT_12, sT_13, sT_14, sR_2_1, sR_2_2, sR_2_3, sR_2_4, sR_2_5, sR_2_6, sR_2_7, sR_2_8, sR_2_9, sR_2_10, sR_2_11, sR_2_12, sT_15, sT_16, sT_17, sT_18, sT_19, sT_20, sT_21, sT_22, sT_23, sR_15_1, sR_15_2, sR_15_3, sR_15_4, sR_15_5, sR_15_6, sR_15_7, sR_15_8, sT_24, sT_25, sT_26, sT_27, sT_28, sT_29, sR_24_1, sR_24_2, sR_24_3, sR_24_4, sR_24_5, sT_71, sT_72, sR_71_0, sR_71_1, sR_71_2, sR_71_3, sR_71_4, sT_73, sT_74, sT_75, sR_73_0, sR_73_1, sR_73_2, sR_73_3, sR_73_4, sR_73_5, sT_84, sT_85, sT_86, sT_87, sR_84_0, sR_84_1, sR_84_2, sR_84_3, sR_84_4, sR_84_5, sT_88, sT_89, sR_88_0, sT_90, sT_91, sR_90_0, hc, e2]
      · by_cases e : m = c
        · subst e; unfold accC; rw [hr]; rfl
        · exact hno m (by omega)
    | true =>
      rw [hr] at e2
      simp only [if_true] at e2
      have x2 := mv2 hr
      have ew := e_W_any x2 p2.2.2.2.2.2 p2.1
      have h10 : ((1 : Int32) = 0) = False := by decide
      have p8 := p2.2.1
      cases hx : exB (aMv A (mvC c)) with
      | false =>
        left
        rw [hx] at ew
        simp only [Bool.false_eq_true, if_false, nI_0] at ew
        refine ⟨([.ref 1, .int (nI t), .int (nI (c + 1)), v], h2), ?_, h2, v, rfl, i2, fun m hm => ?_⟩
        · generalize nI (slM A (sWt A 0)) = Wz at *
          clear mv2 d2 d1 f1 f2 p2 i2 mk mk1 hno p i x2
          simp (disch := first | assumption | omega) [lstp, lc_S_places_2, lb_S_places_2, lu_S_places_2, j_meth, j_out, j_rok, j_pad, lg_sl, s_seq_w, isN_inl, isN_inr, s_if, jb, x_c, x_iloc, x_aloc, x_lloc, x_bin, x_un, o_add, o_sub, o_mul, o_and, o_or, o_xor, o_shl, o_shr, o_ushr, o_max, o_min, o_i2b, o_i2c, o_i2l, o_l2i, x_fld, j_fget, x_idx, j_aget, x_len, j_alen, x_ofb, x_ite, xs_nil, xs_cons, x_callv, x_calls, s_callv, s_calls, j_recv, j_ret, j_retv, b_cmp, b_and, b_or, b_not, b_ofi, b_ite, b_true, s_skip, s_set, j_ty, j_lset, j_kill, s_inc, s_fput, j_fput, s_fop, s_aput, j_aput, j_nar, s_aop, s_ret, s_retv, s_go, s_pop, x_linc, x_finc, Value.category, if_icmp.holds, List.flatMap_cons, List.flatMap_nil, List.length_cons, List.length_append, List.length_nil, List.set_cons_succ, List.set_cons_zero, List.getElem?_cons_succ, List.getElem?_cons_zero, List.replicate, ite_and', ite_or', ite_int', nI_leI, nI_ltI, nI_eq, nI_add, nI_1, pk_mul, nI_clamp, n_in', nI_pos', nI_pos, n_m1e, n_01, n_10, sT_1, sR_1_0, sR_1_1, sR_1_2, sR_1_3, sR_1_4, sR_1_5, sR_1_6, sR_1_7, sR_1_8, sR_1_9, sT_2, sT_3, sT_4, sT_5, sT_6, sT_7, sT_8, sT_9, sT_10, sT_11, sT_12, sT_13, sT_14, sR_2_1, sR_2_2, sR_2_3, sR_2_4, sR_2_5, sR_2_6, sR_2_7, sR_2_8, sR_2_9, sR_2_10, sR_2_11, sR_2_12, sT_15, sT_16, sT_17, sT_18, sT_19, sT_20, sT_21, sT_22, sT_23, sR_15_1, sR_15_2, sR_15_3, sR_15_4, sR_15_5, sR_15_6, sR_15_7, sR_15_8, sT_24, sT_25, sT_26, sT_27, sT_28, sT_29, sR_24_1, sR_24_2, sR_24_3, sR_24_4, sR_24_5, sT_71, sT_72, sR_71_0, sR_71_1, sR_71_2, sR_71_3, sR_71_4, sT_73, sT_74, sT_75, sR_73_0, sR_73_1, sR_73_2, sR_73_3, sR_73_4, sR_73_5, sT_84, sT_85, sT_86, sT_87, sR_84_0, sR_84_1, sR_84_2, sR_84_3, sR_84_4, sR_84_5, sT_88, sT_89, sR_88_0, sT_90, sT_91, sR_90_0, hc, e2, h10, nI_0, p8, ew]
        · by_cases e : m = c
          · subst e; unfold accC; rw [hx]; simp
          · exact hno m (by omega)
      | true =>
        right
        rw [hx] at ew
        simp only [if_true, nI_0] at ew
        obtain ⟨h3, e3, f3, c3⟩ := e_R_empty hs2
        have hs3 := Fr_shape hs2 f3
        have k11 : hI h3 1 11 = nI (aNo A) := by
          rw [Fr_I f3 fun q => by unfold W90 at q; omega, Fr_I i2.1 fun q => by
            rcases q with z | z
            · have := Wds_lt z; omega
            · omega]
          exact c11
        obtain ⟨h4, e4, f4, c4⟩ := e_pl_3 (A := A) (c := c) w hs3 k11 (fun k hk => by
          rw [Fr_I f3 fun q => by unfold W90 at q; omega]
          exact (x2.2 k hk).2.1) c3 (nI t) (nI c)
        have hs4 := Fr_shape hs3 f4
        refine ⟨(.inr (some (.int (nI t))), ([.ref 1, .int (nI t), .int (nI c), .int (nI (aNo A))], h4)), ?_, Or.inr ⟨c, fst1_of hc (by unfold accC; rw [hr, hx]; rfl) hno, h2, h4, _, rfl, i2, Fr_trans f3 f4, c4⟩⟩
        generalize nI (slM A (sWt A 0)) = Wz at *
        clear mv2 d2 d1 f1 f2 p2 i2 mk mk1 hno p i x2 f3 f4 c3 c4
        simp only [nI_0] at e4
        cases v <;> simp (disch := first | assumption | omega) [lstp, lc_S_places_2, lb_S_places_2, lu_S_places_2, j_meth, j_out, j_rok, j_pad, lg_sl, s_seq_w, isN_inl, isN_inr, s_if, jb, x_c, x_iloc, x_aloc, x_lloc, x_bin, x_un, o_add, o_sub, o_mul, o_and, o_or, o_xor, o_shl, o_shr, o_ushr, o_max, o_min, o_i2b, o_i2c, o_i2l, o_l2i, x_fld, j_fget, x_idx, j_aget, x_len, j_alen, x_ofb, x_ite, xs_nil, xs_cons, x_callv, x_calls, s_callv, s_calls, j_recv, j_ret, j_retv, b_cmp, b_and, b_or, b_not, b_ofi, b_ite, b_true, s_skip, s_set, j_ty, j_lset, j_kill, s_inc, s_fput, j_fput, s_fop, s_aput, j_aput, j_nar, s_aop, s_ret, s_retv, s_go, s_pop, x_linc, x_finc, Value.category, if_icmp.holds, List.flatMap_cons, List.flatMap_nil, List.length_cons, List.length_append, List.length_nil, List.set_cons_succ, List.set_cons_zero, List.getElem?_cons_succ, List.getElem?_cons_zero, List.replicate, ite_and', ite_or', ite_int', nI_leI, nI_ltI, nI_eq, nI_add, nI_1, pk_mul, nI_clamp, n_in', nI_pos', nI_pos, n_m1e, n_01, n_10, sT_1, sR_1_0, sR_1_1, sR_1_2, sR_1_3, sR_1_4, sR_1_5, sR_1_6, sR_1_7, sR_1_8, sR_1_9, sT_2, sT_3, sT_4, sT_5, sT_6, sT_7, sT_8, sT_9, sT_10, sT_11, sT_12, sT_13, sT_14, sR_2_1, sR_2_2, sR_2_3, sR_2_4, sR_2_5, sR_2_6, sR_2_7, sR_2_8, sR_2_9, sR_2_10, sR_2_11, sR_2_12, sT_15, sT_16, sT_17, sT_18, sT_19, sT_20, sT_21, sT_22, sT_23, sR_15_1, sR_15_2, sR_15_3, sR_15_4, sR_15_5, sR_15_6, sR_15_7, sR_15_8, sT_24, sT_25, sT_26, sT_27, sT_28, sT_29, sR_24_1, sR_24_2, sR_24_3, sR_24_4, sR_24_5, sT_71, sT_72, sR_71_0, sR_71_1, sR_71_2, sR_71_3, sR_71_4, sT_73, sT_74, sT_75, sR_73_0, sR_73_1, sR_73_2, sR_73_3, sR_73_4, sR_73_5, sT_84, sT_85, sT_86, sT_87, sR_84_0, sR_84_1, sR_84_2, sR_84_3, sR_84_4, sR_84_5, sT_88, sT_89, sR_88_0, sT_90, sT_91, sR_90_0, hc, e2, h10, nI_0, p8, ew, e3, e4]
  · rintro st ⟨h1, v, rfl, i1, hno⟩
    refine ⟨(.inl 0, ([.ref 1, .int (nI t), .int (nI 256), v], h1)), ?_, Or.inl ⟨fst1_no hno, h1, v, rfl, i1⟩⟩
    have hs1 := Fr_shape hs0 i1.1
    clear i1 i mk p hno
    simp (disch := first | assumption | omega) [lstp, lc_S_places_2, lb_S_places_2, lu_S_places_2, j_meth, j_out, j_rok, j_pad, lg_sl, s_seq_w, isN_inl, isN_inr, s_if, jb, x_c, x_iloc, x_aloc, x_lloc, x_bin, x_un, o_add, o_sub, o_mul, o_and, o_or, o_xor, o_shl, o_shr, o_ushr, o_max, o_min, o_i2b, o_i2c, o_i2l, o_l2i, x_fld, j_fget, x_idx, j_aget, x_len, j_alen, x_ofb, x_ite, xs_nil, xs_cons, x_callv, x_calls, s_callv, s_calls, j_recv, j_ret, j_retv, b_cmp, b_and, b_or, b_not, b_ofi, b_ite, b_true, s_skip, s_set, j_ty, j_lset, j_kill, s_inc, s_fput, j_fput, s_fop, s_aput, j_aput, j_nar, s_aop, s_ret, s_retv, s_go, s_pop, x_linc, x_finc, Value.category, if_icmp.holds, List.flatMap_cons, List.flatMap_nil, List.length_cons, List.length_append, List.length_nil, List.set_cons_succ, List.set_cons_zero, List.getElem?_cons_succ, List.getElem?_cons_zero, List.replicate, ite_and', ite_or', ite_int', nI_leI, nI_ltI, nI_eq, nI_add, nI_1, pk_mul, nI_clamp, n_in', nI_pos', nI_pos, n_m1e, n_01, n_10, sT_1, sR_1_0, sR_1_1, sR_1_2, sR_1_3, sR_1_4, sR_1_5, sR_1_6, sR_1_7, sR_1_8, sR_1_9, sT_2, sT_3, sT_4, sT_5, sT_6, sT_7, sT_8, sT_9, sT_10, sT_11, sT_12, sT_13, sT_14, sR_2_1, sR_2_2, sR_2_3, sR_2_4, sR_2_5, sR_2_6, sR_2_7, sR_2_8, sR_2_9, sR_2_10, sR_2_11, sR_2_12, sT_15, sT_16, sT_17, sT_18, sT_19, sT_20, sT_21, sT_22, sT_23, sR_15_1, sR_15_2, sR_15_3, sR_15_4, sR_15_5, sR_15_6, sR_15_7, sR_15_8, sT_24, sT_25, sT_26, sT_27, sT_28, sT_29, sR_24_1, sR_24_2, sR_24_3, sR_24_4, sR_24_5, sT_71, sT_72, sR_71_0, sR_71_1, sR_71_2, sR_71_3, sR_71_4, sT_73, sT_74, sT_75, sR_73_0, sR_73_1, sR_73_2, sR_73_3, sR_73_4, sR_73_5, sT_84, sT_85, sT_86, sT_87, sR_84_0, sR_84_1, sR_84_2, sR_84_3, sR_84_4, sR_84_5, sT_88, sT_89, sR_88_0, sT_90, sT_91, sR_90_0]
theorem o_S_places {A : AS} {tx : List Nat} {rw : List Int32} {h : jHp} (r : RC A tx rw h) : ∃ h', f_S_places [.ref 1] h = some (some (.int (vPlaces A rw).1), h') ∧ RC A tx (vPlaces A rw).2 h' ∧ FC h h' := by
  have r0 := r
  obtain ⟨mk, ⟨ca, bl, d, sp⟩, c11, ct, cr, cs⟩ := r
  have hs := mk.1.1
  have w := mk.1.2.1
  obtain ⟨h1, e1, f1, p1⟩ := e_W_prepare mk (nI 2)
  have hs1 := Fr_shape hs f1
  have mk1 : MK A h1 := MK_fr mk f1 fun a j q => Wpr_cC q
  have d1 : DK A ca bl h1 := DK_fr d f1 (fun a j q => Wpr_cC q) fun a j k hk q z => by
    have := Wdk_lt hk z
    unfold Wpr at q
    omega
  have k11 : hI h1 1 11 = nI (aNo A) := by rw [Fr_I f1 fun q => by unfold Wpr at q; omega]; exact c11
  have fin : ∀ h2, InP A ca h1 h2 → RC A tx rw h2 ∧ FC h h2 := fun h2 i2 => by
    obtain ⟨f2, bl2, d2⟩ := i2
    have f12 : Fr WplS h h2 := Fr_trans (Fr_mono f1 fun a j q => Or.inr q) (Fr_mono f2 fun a j q => Or.inl q)
    refine RC_mk r0 d sp f12 (fun a j q => WplS_ok q) d2 (CRw_fr cr f12 fun a j q => ?_)
    rcases q with (z | z) | z
    · have := Wds_lt z; omega
    · omega
    · unfold Wpr at z; omega
  unfold vPlaces
  rw [plcs_ok w]
  have hL := loop_wp (lb := 1) (lc := 2) (c := lc_S_places_1) (b := lb_S_places_1) (u := lu_S_places_1) 4
    (fun t st => ∃ h' v2 v3, st = ([.ref 1, .int (nI t), v2, v3], h') ∧ InP A ca h1 h' ∧ ∀ m, m < t → (fst1 (accC A m) 256).isSome = false)
    (fun r => (plcC A = none ∧ ∃ h' st, r = (.inl 0, (st, h')) ∧ InP A ca h1 h') ∨ (∃ t c, plcC A = some (t, c) ∧ ∃ h2 h' st, r = (.inr (some (.int (nI t))), (st, h')) ∧ InP A ca h1 h2 ∧ Fr W90 h2 h' ∧ CRw ((rowC (aNo A) c).map nI) h'))
    ?_ ?_ ([.ref 1, .int (nI 0), .null, .null], h1) ⟨h1, .null, .null, rfl, ⟨Fr_refl _ _, bl, d1⟩, fun m hm => by omega⟩
  · obtain ⟨q, e2, hq⟩ := hL
    simp only [nI_0] at e2
    rcases hq with ⟨hn, h2, st, rfl, i2⟩ | ⟨t, c, hn, h2, h3, st, rfl, i2, f3, c3⟩
    · rw [hn]
      simp only [Option.map_none]
      have hs2 := Fr_shape hs1 i2.1
      refine ⟨h2, ?_, fin h2 i2⟩
      clear fin d1 mk1 p1 r0 d i2
      simp (disch := first | assumption | omega) [f_S_places, body_S_places, j_meth, j_out, j_rok, j_pad, lg_sl, s_seq_w, isN_inl, isN_inr, s_if, jb, x_c, x_iloc, x_aloc, x_lloc, x_bin, x_un, o_add, o_sub, o_mul, o_and, o_or, o_xor, o_shl, o_shr, o_ushr, o_max, o_min, o_i2b, o_i2c, o_i2l, o_l2i, x_fld, j_fget, x_idx, j_aget, x_len, j_alen, x_ofb, x_ite, xs_nil, xs_cons, x_callv, x_calls, s_callv, s_calls, j_recv, j_ret, j_retv, b_cmp, b_and, b_or, b_not, b_ofi, b_ite, b_true, s_skip, s_set, j_ty, j_lset, j_kill, s_inc, s_fput, j_fput, s_fop, s_aput, j_aput, j_nar, s_aop, s_ret, s_retv, s_go, s_pop, x_linc, x_finc, Value.category, if_icmp.holds, List.flatMap_cons, List.flatMap_nil, List.length_cons, List.length_append, List.length_nil, List.set_cons_succ, List.set_cons_zero, List.getElem?_cons_succ, List.getElem?_cons_zero, List.replicate, ite_and', ite_or', ite_int', nI_leI, nI_ltI, nI_eq, nI_add, nI_1, pk_mul, nI_clamp, n_in', nI_pos', nI_pos, n_m1e, n_01, n_10, sT_1, sR_1_0, sR_1_1, sR_1_2, sR_1_3, sR_1_4, sR_1_5, sR_1_6, sR_1_7, sR_1_8, sR_1_9, sT_2, sT_3, sT_4, sT_5, sT_6, sT_7, sT_8, sT_9, sT_10, sT_11, sT_12, sT_13, sT_14, sR_2_1, sR_2_2, sR_2_3, sR_2_4, sR_2_5, sR_2_6, sR_2_7, sR_2_8, sR_2_9, sR_2_10, sR_2_11, sR_2_12, sT_15, sT_16, sT_17, sT_18, sT_19, sT_20, sT_21, sT_22, sT_23, sR_15_1, sR_15_2, sR_15_3, sR_15_4, sR_15_5, sR_15_6, sR_15_7, sR_15_8, sT_24, sT_25, sT_26, sT_27, sT_28, sT_29, sR_24_1, sR_24_2, sR_24_3, sR_24_4, sR_24_5, sT_71, sT_72, sR_71_0, sR_71_1, sR_71_2, sR_71_3, sR_71_4, sT_73, sT_74, sT_75, sR_73_0, sR_73_1, sR_73_2, sR_73_3, sR_73_4, sR_73_5, sT_84, sT_85, sT_86, sT_87, sR_84_0, sR_84_1, sR_84_2, sR_84_3, sR_84_4, sR_84_5, sT_88, sT_89, sR_88_0, sT_90, sT_91, sR_90_0, e1, nI_0, e2]
    · rw [hn]
      simp only [Option.map_some]
      have hs2 := Fr_shape hs1 i2.1
      have hs3 := Fr_shape hs2 f3
      obtain ⟨rc2, fc2⟩ := fin h2 i2
      have fin3 := RC_90 rc2 f3 c3
      refine ⟨h3, ?_, fin3.1, FC_trans fc2 fin3.2⟩
      clear fin d1 mk1 p1 r0 d i2 fin3 rc2 fc2
      simp (disch := first | assumption | omega) [f_S_places, body_S_places, j_meth, j_out, j_rok, j_pad, lg_sl, s_seq_w, isN_inl, isN_inr, s_if, jb, x_c, x_iloc, x_aloc, x_lloc, x_bin, x_un, o_add, o_sub, o_mul, o_and, o_or, o_xor, o_shl, o_shr, o_ushr, o_max, o_min, o_i2b, o_i2c, o_i2l, o_l2i, x_fld, j_fget, x_idx, j_aget, x_len, j_alen, x_ofb, x_ite, xs_nil, xs_cons, x_callv, x_calls, s_callv, s_calls, j_recv, j_ret, j_retv, b_cmp, b_and, b_or, b_not, b_ofi, b_ite, b_true, s_skip, s_set, j_ty, j_lset, j_kill, s_inc, s_fput, j_fput, s_fop, s_aput, j_aput, j_nar, s_aop, s_ret, s_retv, s_go, s_pop, x_linc, x_finc, Value.category, if_icmp.holds, List.flatMap_cons, List.flatMap_nil, List.length_cons, List.length_append, List.length_nil, List.set_cons_succ, List.set_cons_zero, List.getElem?_cons_succ, List.getElem?_cons_zero, List.replicate, ite_and', ite_or', ite_int', nI_leI, nI_ltI, nI_eq, nI_add, nI_1, pk_mul, nI_clamp, n_in', nI_pos', nI_pos, n_m1e, n_01, n_10, sT_1, sR_1_0, sR_1_1, sR_1_2, sR_1_3, sR_1_4, sR_1_5, sR_1_6, sR_1_7, sR_1_8, sR_1_9, sT_2, sT_3, sT_4, sT_5, sT_6, sT_7, sT_8, sT_9, sT_10, sT_11, sT_12, sT_13, sT_14, sR_2_1, sR_2_2, sR_2_3, sR_2_4, sR_2_5, sR_2_6, sR_2_7, sR_2_8, sR_2_9, sR_2_10, sR_2_11, sR_2_12, sT_15, sT_16, sT_17, sT_18, sT_19, sT_20, sT_21, sT_22, sT_23, sR_15_1, sR_15_2, sR_15_3, sR_15_4, sR_15_5, sR_15_6, sR_15_7, sR_15_8, sT_24, sT_25, sT_26, sT_27, sT_28, sT_29, sR_24_1, sR_24_2, sR_24_3, sR_24_4, sR_24_5, sT_71, sT_72, sR_71_0, sR_71_1, sR_71_2, sR_71_3, sR_71_4, sT_73, sT_74, sT_75, sR_73_0, sR_73_1, sR_73_2, sR_73_3, sR_73_4, sR_73_5, sT_84, sT_85, sT_86, sT_87, sR_84_0, sR_84_1, sR_84_2, sR_84_3, sR_84_4, sR_84_5, sT_88, sT_89, sR_88_0, sT_90, sT_91, sR_90_0, e1, nI_0, e2]
  · rintro t st ht ⟨h2, v2, v3, rfl, i2, hno⟩
    have hs2 := Fr_shape hs1 i2.1
    have key := e_pl_2 mk1 p1 k11 i2 ht v3
    simp only [nI_0] at key
    rcases key with ⟨hn, h3, v, e3, i3⟩ | ⟨c, hn, h3, h4, st, e3, i3, f4, c4⟩
    · left
      refine ⟨([.ref 1, .int (nI (t + 1)), .int (nI 256), v], h3), ?_, h3, _, _, rfl, i3, fun m hm => ?_⟩
      · have hs3 := Fr_shape hs1 i3.1
        clear fin d1 mk1 p1 r0 d i2 i3 hno
        cases v2 <;> simp (disch := first | assumption | omega) [lstp, lc_S_places_1, lb_S_places_1, lu_S_places_1, j_meth, j_out, j_rok, j_pad, lg_sl, s_seq_w, isN_inl, isN_inr, s_if, jb, x_c, x_iloc, x_aloc, x_lloc, x_bin, x_un, o_add, o_sub, o_mul, o_and, o_or, o_xor, o_shl, o_shr, o_ushr, o_max, o_min, o_i2b, o_i2c, o_i2l, o_l2i, x_fld, j_fget, x_idx, j_aget, x_len, j_alen, x_ofb, x_ite, xs_nil, xs_cons, x_callv, x_calls, s_callv, s_calls, j_recv, j_ret, j_retv, b_cmp, b_and, b_or, b_not, b_ofi, b_ite, b_true, s_skip, s_set, j_ty, j_lset, j_kill, s_inc, s_fput, j_fput, s_fop, s_aput, j_aput, j_nar, s_aop, s_ret, s_retv, s_go, s_pop, x_linc, x_finc, Value.category, if_icmp.holds, List.flatMap_cons, List.flatMap_nil, List.length_cons, List.length_append, List.length_nil, List.set_cons_succ, List.set_cons_zero, List.getElem?_cons_succ, List.getElem?_cons_zero, List.replicate, ite_and', ite_or', ite_int', nI_leI, nI_ltI, nI_eq, nI_add, nI_1, pk_mul, nI_clamp, n_in', nI_pos', nI_pos, n_m1e, n_01, n_10, sT_1, sR_1_0, sR_1_1, sR_1_2, sR_1_3, sR_1_4, sR_1_5, sR_1_6, sR_1_7, sR_1_8, sR_1_9, sT_2, sT_3, sT_4, sT_5, sT_6, sT_7, sT_8, sT_9, sT_10, sT_11, sT_12, sT_13, sT_14, sR_2_1, sR_2_2, sR_2_3, sR_2_4, sR_2_5, sR_2_6, sR_2_7, sR_2_8, sR_2_9, sR_2_10, sR_2_11, sR_2_12, sT_15, sT_16, sT_17, sT_18, sT_19, sT_20, sT_21, sT_22, sT_23, sR_15_1, sR_15_2, sR_15_3, sR_15_4, sR_15_5, sR_15_6, sR_15_7, sR_15_8, sT_24, sT_25, sT_26, sT_27, sT_28, sT_29, sR_24_1, sR_24_2, sR_24_3, sR_24_4, sR_24_5, sT_71, sT_72, sR_71_0, sR_71_1, sR_71_2, sR_71_3, sR_71_4, sT_73, sT_74, sT_75, sR_73_0, sR_73_1, sR_73_2, sR_73_3, sR_73_4, sR_73_5, sT_84, sT_85, sT_86, sT_87, sR_84_0, sR_84_1, sR_84_2, sR_84_3, sR_84_4, sR_84_5, sT_88, sT_89, sR_88_0, sT_90, sT_91, sR_90_0, ht, nI_0, e3]
      · by_cases e : m = t
        · subst e; rw [hn]; rfl
        · exact hno m (by omega)
    · right
      refine ⟨(.inr (some (.int (nI t))), (st, h4)), ?_, Or.inr ⟨t, c, ?_, h3, h4, st, rfl, i3, f4, c4⟩⟩
      · have hs3 := Fr_shape hs1 i3.1
        clear fin d1 mk1 p1 r0 d i2 i3 hno f4 c4
        cases v2 <;> simp (disch := first | assumption | omega) [lstp, lc_S_places_1, lb_S_places_1, lu_S_places_1, j_meth, j_out, j_rok, j_pad, lg_sl, s_seq_w, isN_inl, isN_inr, s_if, jb, x_c, x_iloc, x_aloc, x_lloc, x_bin, x_un, o_add, o_sub, o_mul, o_and, o_or, o_xor, o_shl, o_shr, o_ushr, o_max, o_min, o_i2b, o_i2c, o_i2l, o_l2i, x_fld, j_fget, x_idx, j_aget, x_len, j_alen, x_ofb, x_ite, xs_nil, xs_cons, x_callv, x_calls, s_callv, s_calls, j_recv, j_ret, j_retv, b_cmp, b_and, b_or, b_not, b_ofi, b_ite, b_true, s_skip, s_set, j_ty, j_lset, j_kill, s_inc, s_fput, j_fput, s_fop, s_aput, j_aput, j_nar, s_aop, s_ret, s_retv, s_go, s_pop, x_linc, x_finc, Value.category, if_icmp.holds, List.flatMap_cons, List.flatMap_nil, List.length_cons, List.length_append, List.length_nil, List.set_cons_succ, List.set_cons_zero, List.getElem?_cons_succ, List.getElem?_cons_zero, List.replicate, ite_and', ite_or', ite_int', nI_leI, nI_ltI, nI_eq, nI_add, nI_1, pk_mul, nI_clamp, n_in', nI_pos', nI_pos, n_m1e, n_01, n_10, sT_1, sR_1_0, sR_1_1, sR_1_2, sR_1_3, sR_1_4, sR_1_5, sR_1_6, sR_1_7, sR_1_8, sR_1_9, sT_2, sT_3, sT_4, sT_5, sT_6, sT_7, sT_8, sT_9, sT_10, sT_11, sT_12, sT_13, sT_14, sR_2_1, sR_2_2, sR_2_3, sR_2_4, sR_2_5, sR_2_6, sR_2_7, sR_2_8, sR_2_9, sR_2_10, sR_2_11, sR_2_12, sT_15, sT_16, sT_17, sT_18, sT_19, sT_20, sT_21, sT_22, sT_23, sR_15_1, sR_15_2, sR_15_3, sR_15_4, sR_15_5, sR_15_6, sR_15_7, sR_15_8, sT_24, sT_25, sT_26, sT_27, sT_28, sT_29, sR_24_1, sR_24_2, sR_24_3, sR_24_4, sR_24_5, sT_71, sT_72, sR_71_0, sR_71_1, sR_71_2, sR_71_3, sR_71_4, sT_73, sT_74, sT_75, sR_73_0, sR_73_1, sR_73_2, sR_73_3, sR_73_4, sR_73_5, sT_84, sT_85, sT_86, sT_87, sR_84_0, sR_84_1, sR_84_2, sR_84_3, sR_84_4, sR_84_5, sT_88, sT_89, sR_88_0, sT_90, sT_91, sR_90_0, ht, nI_0, e3]
      · unfold plcC
        rw [fst1_of (p := fun t => (fst1 (accC A t) 256).isSome) ht (by simp only [hn]; rfl) hno]
        simp only [hn, Option.getD_some]
  · rintro st ⟨h2, v2, v3, rfl, i2, hno⟩
    refine ⟨(.inl 0, ([.ref 1, .int (nI 4), v2, v3], h2)), ?_, Or.inl ⟨?_, h2, _, rfl, i2⟩⟩
    · have hs2 := Fr_shape hs1 i2.1
      clear fin d1 mk1 p1 r0 d i2 hno
      simp (disch := first | assumption | omega) [lstp, lc_S_places_1, lb_S_places_1, lu_S_places_1, j_meth, j_out, j_rok, j_pad, lg_sl, s_seq_w, isN_inl, isN_inr, s_if, jb, x_c, x_iloc, x_aloc, x_lloc, x_bin, x_un, o_add, o_sub, o_mul, o_and, o_or, o_xor, o_shl, o_shr, o_ushr, o_max, o_min, o_i2b, o_i2c, o_i2l, o_l2i, x_fld, j_fget, x_idx, j_aget, x_len, j_alen, x_ofb, x_ite, xs_nil, xs_cons, x_callv, x_calls, s_callv, s_calls, j_recv, j_ret, j_retv, b_cmp, b_and, b_or, b_not, b_ofi, b_ite, b_true, s_skip, s_set, j_ty, j_lset, j_kill, s_inc, s_fput, j_fput, s_fop, s_aput, j_aput, j_nar, s_aop, s_ret, s_retv, s_go, s_pop, x_linc, x_finc, Value.category, if_icmp.holds, List.flatMap_cons, List.flatMap_nil, List.length_cons, List.length_append, List.length_nil, List.set_cons_succ, List.set_cons_zero, List.getElem?_cons_succ, List.getElem?_cons_zero, List.replicate, ite_and', ite_or', ite_int', nI_leI, nI_ltI, nI_eq, nI_add, nI_1, pk_mul, nI_clamp, n_in', nI_pos', nI_pos, n_m1e, n_01, n_10, sT_1, sR_1_0, sR_1_1, sR_1_2, sR_1_3, sR_1_4, sR_1_5, sR_1_6, sR_1_7, sR_1_8, sR_1_9, sT_2, sT_3, sT_4, sT_5, sT_6, sT_7, sT_8, sT_9, sT_10, sT_11, sT_12, sT_13, sT_14, sR_2_1, sR_2_2, sR_2_3, sR_2_4, sR_2_5, sR_2_6, sR_2_7, sR_2_8, sR_2_9, sR_2_10, sR_2_11, sR_2_12, sT_15, sT_16, sT_17, sT_18, sT_19, sT_20, sT_21, sT_22, sT_23, sR_15_1, sR_15_2, sR_15_3, sR_15_4, sR_15_5, sR_15_6, sR_15_7, sR_15_8, sT_24, sT_25, sT_26, sT_27, sT_28, sT_29, sR_24_1, sR_24_2, sR_24_3, sR_24_4, sR_24_5, sT_71, sT_72, sR_71_0, sR_71_1, sR_71_2, sR_71_3, sR_71_4, sT_73, sT_74, sT_75, sR_73_0, sR_73_1, sR_73_2, sR_73_3, sR_73_4, sR_73_5, sT_84, sT_85, sT_86, sT_87, sR_84_0, sR_84_1, sR_84_2, sR_84_3, sR_84_4, sR_84_5, sT_88, sT_89, sR_88_0, sT_90, sT_91, sR_90_0]
    · unfold plcC
      rw [fst1_no (p := fun t => (fst1 (accC A t) 256).isSome) hno]
