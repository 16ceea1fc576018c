/-! list, clear -/
theorem plc_list (A : AS) (p : Nat) (l : List Nat) (b : Nat) : sPlc (aList A p l) b = if aPe A b = p then fst1 (fun k => l.getD k 0 == b) l.length else sPlc A b := by
  by_cases e : aPe A b = p
  · rw [if_pos e]
    have h : sPlc (aList A p l) b = fst1 (fun k => (updN (aLl A) p l (aPe A b)).getD k 0 == b) (updN (aLl A) p l (aPe A b)).length := rfl
    rw [h, e, updN_eq]
  · rw [if_neg e]
    have h : sPlc (aList A p l) b = fst1 (fun k => (updN (aLl A) p l (aPe A b)).getD k 0 == b) (updN (aLl A) p l (aPe A b)).length := rfl
    rw [h, updN_ne _ _ e]
    rfl
theorem fst1_app {l : List Nat} {b c : Nat} (hb : b ∉ l) : fst1 (fun k => (l ++ [b]).getD k 0 == c) (l ++ [b]).length = if c = b then some l.length else fst1 (fun k => l.getD k 0 == c) l.length := by
  have hlen : (l ++ [b]).length = l.length + 1 := by simp
  have hlt : ∀ k, k < l.length → (l ++ [b]).getD k 0 = l.getD k 0 := fun k hk => by
    rw [List.getD_eq_getElem?_getD, List.getD_eq_getElem?_getD, List.getElem?_append_left hk]
  have heq : (l ++ [b]).getD l.length 0 = b := by simp
  rw [hlen]
  by_cases e : c = b
  · rw [if_pos e]
    refine fst1_of (by omega) (by rw [heq, e]; simp) fun m hm => ?_
    rw [hlt m hm, beq_eq_false_iff_ne]
    intro q
    exact hb (by rw [← e, ← q]; exact getD_mem' hm)
  · rw [if_neg e]
    rw [fst1_ext (n := l.length) (m := l.length + 1) (by omega) fun i h1 h2 => by
      have : i = l.length := by omega
      rw [this, heq, beq_eq_false_iff_ne]
      exact fun q => e q.symm]
    exact fst1_congr fun k hk => by rw [hlt k hk]
theorem o_S_list {A : AS} {tx : List Nat} {rw : List Int32} {h : jHp} (r : RC A tx rw h) (x : Int32) : ∃ h', f_S_list [.ref 1, .int x] h = some (some (.int (vList A x).1), h') ∧ RC (vList A x).2 tx rw h' ∧ FC h h' := by
  have r0 := r
  obtain ⟨mk, ⟨ca, bl, d, sp⟩, c11, ct, cr, cs⟩ := r
  have hs := mk.1.1
  have w := mk.1.2.1
  have cb := mk.1.2.2.1
  have cp := mk.1.2.2.2
  have hn := w.1.1
  have h20 := w.2.2.1.1
  have s77 := sT_77 hs
  have ex := e_B_has hs w cb x
  have h10 : ((1 : Int32) = 0) = False := by decide
  unfold vList
  by_cases hx : j_in x (aNb A) = true
  case neg =>
    rw [if_neg (fun q => hx q.1)]
    rw [if_neg hx] at ex
    refine ⟨h, ?_, r0, FC_refl h⟩
    simp (disch := first | assumption | omega) [f_S_list, body_S_list, j_meth, j_out, j_rok, j_pad, lg_sl, s_seq_w, isN_inl, isN_inr, s_if, jb, x_c, x_iloc, x_aloc, x_lloc, x_bin, x_un, o_add, o_sub, o_mul, o_and, o_or, o_xor, o_shl, o_shr, o_ushr, o_max, o_min, o_i2b, o_i2c, o_i2l, o_l2i, x_fld, j_fget, x_idx, j_aget, x_len, j_alen, x_ofb, x_ite, xs_nil, xs_cons, x_callv, x_calls, s_callv, s_calls, j_recv, j_ret, j_retv, b_cmp, b_and, b_or, b_not, b_ofi, b_ite, b_true, s_skip, s_set, j_ty, j_lset, j_kill, s_inc, s_fput, j_fput, s_fop, s_aput, j_aput, j_nar, s_aop, s_ret, s_retv, s_go, s_pop, x_linc, x_finc, Value.category, if_icmp.holds, List.flatMap_cons, List.flatMap_nil, List.length_cons, List.length_append, List.length_nil, List.set_cons_succ, List.set_cons_zero, List.getElem?_cons_succ, List.getElem?_cons_zero, List.replicate, ite_and', ite_or', ite_int', nI_leI, nI_ltI, nI_eq, nI_add, nI_1, pk_mul, nI_clamp, n_in', nI_pos', nI_pos, n_m1e, n_01, n_10, sT_1, sR_1_0, sR_1_1, sR_1_2, sR_1_3, sR_1_4, sR_1_5, sR_1_6, sR_1_7, sR_1_8, sR_1_9, sT_2, sT_3, sT_4, sT_5, sT_6, sT_7, sT_8, sT_9, sT_10, sT_11, sT_12, sT_13, sT_14, sR_2_1, sR_2_2, sR_2_3, sR_2_4, sR_2_5, sR_2_6, sR_2_7, sR_2_8, sR_2_9, sR_2_10, sR_2_11, sR_2_12, sT_15, sT_16, sT_17, sT_18, sT_19, sT_20, sT_21, sT_22, sT_23, sR_15_1, sR_15_2, sR_15_3, sR_15_4, sR_15_5, sR_15_6, sR_15_7, sR_15_8, sT_24, sT_25, sT_26, sT_27, sT_28, sT_29, sR_24_1, sR_24_2, sR_24_3, sR_24_4, sR_24_5, sT_71, sT_72, sR_71_0, sR_71_1, sR_71_2, sR_71_3, sR_71_4, sT_73, sT_74, sT_75, sR_73_0, sR_73_1, sR_73_2, sR_73_3, sR_73_4, sR_73_5, sT_84, sT_85, sT_86, sT_87, sR_84_0, sR_84_1, sR_84_2, sR_84_3, sR_84_4, sR_84_5, sT_88, sT_89, sR_88_0, sT_90, sT_91, sR_90_0, ex]
  rw [if_pos hx] at ex
  obtain ⟨b, hb, rfl⟩ := j_in_ex hx (by omega)
  rw [nI_clamp (by omega)]
  have c22 := cp.2.2.2.2.1 b (by omega)
  rw [if_pos hb] at c22
  by_cases hp : sPlc A b = none
  case neg =>
    rw [if_neg (fun q => hp q.2)]
    have hp' : (oI (sPlc A b) = -1) = False := eq_false fun q => hp ((oI_m1 (fun n hn => by have := sPlc_lt w hn; omega)).mp q)
    refine ⟨h, ?_, r0, FC_refl h⟩
    simp (disch := first | assumption | omega) [f_S_list, body_S_list, j_meth, j_out, j_rok, j_pad, lg_sl, s_seq_w, isN_inl, isN_inr, s_if, jb, x_c, x_iloc, x_aloc, x_lloc, x_bin, x_un, o_add, o_sub, o_mul, o_and, o_or, o_xor, o_shl, o_shr, o_ushr, o_max, o_min, o_i2b, o_i2c, o_i2l, o_l2i, x_fld, j_fget, x_idx, j_aget, x_len, j_alen, x_ofb, x_ite, xs_nil, xs_cons, x_callv, x_calls, s_callv, s_calls, j_recv, j_ret, j_retv, b_cmp, b_and, b_or, b_not, b_ofi, b_ite, b_true, s_skip, s_set, j_ty, j_lset, j_kill, s_inc, s_fput, j_fput, s_fop, s_aput, j_aput, j_nar, s_aop, s_ret, s_retv, s_go, s_pop, x_linc, x_finc, Value.category, if_icmp.holds, List.flatMap_cons, List.flatMap_nil, List.length_cons, List.length_append, List.length_nil, List.set_cons_succ, List.set_cons_zero, List.getElem?_cons_succ, List.getElem?_cons_zero, List.replicate, ite_and', ite_or', ite_int', nI_leI, nI_ltI, nI_eq, nI_add, nI_1, pk_mul, nI_clamp, n_in', nI_pos', nI_pos, n_m1e, n_01, n_10, sT_1, sR_1_0, sR_1_1, sR_1_2, sR_1_3, sR_1_4, sR_1_5, sR_1_6, sR_1_7, sR_1_8, sR_1_9, sT_2, sT_3, sT_4, sT_5, sT_6, sT_7, sT_8, sT_9, sT_10, sT_11, sT_12, sT_13, sT_14, sR_2_1, sR_2_2, sR_2_3, sR_2_4, sR_2_5, sR_2_6, sR_2_7, sR_2_8, sR_2_9, sR_2_10, sR_2_11, sR_2_12, sT_15, sT_16, sT_17, sT_18, sT_19, sT_20, sT_21, sT_22, sT_23, sR_15_1, sR_15_2, sR_15_3, sR_15_4, sR_15_5, sR_15_6, sR_15_7, sR_15_8, sT_24, sT_25, sT_26, sT_27, sT_28, sT_29, sR_24_1, sR_24_2, sR_24_3, sR_24_4, sR_24_5, sT_71, sT_72, sR_71_0, sR_71_1, sR_71_2, sR_71_3, sR_71_4, sT_73, sT_74, sT_75, sR_73_0, sR_73_1, sR_73_2, sR_73_3, sR_73_4, sR_73_5, sT_84, sT_85, sT_86, sT_87, sR_84_0, sR_84_1, sR_84_2, sR_84_3, sR_84_4, sR_84_5, sT_88, sT_89, sR_88_0, sT_90, sT_91, sR_90_0, ex, h10, c22, hp']
  rw [if_pos ⟨hx, hp⟩]
  rw [hp, oI_n] at c22
  have e1 := (cb.2.1 b hb).1
  have e8 := (cb.2.1 b hb).2.2.2.2.2.1
  have hsl := sSlot_lt w hb
  have hpl := (w.2.2.1.2.1 b hb).1
  have hnm : b ∉ aLl A (aPe A b) := sPlc_none.mp hp
  have wl := w.2.2.2.1 (aPe A b)
  have wB : WF (aList A (aPe A b) (aLl A (aPe A b) ++ [b])) := by
    refine WF_list w hpl ?_ fun c hc => ?_
    · rw [List.nodup_append]
      refine ⟨wl.2.2.1, by simp, fun y hy z hz e => ?_⟩
      simp only [List.mem_singleton] at hz
      subst hz; subst e; exact hnm hy
    · rcases List.mem_append.mp hc with q | q
      · exact wl.2.2.2 c q
      · simp only [List.mem_singleton] at q
        subst q; exact ⟨hb, rfl⟩
  have h5 : (aLl A (aPe A b)).length < 5 := by
    have := (wB.2.2.2.1 (aPe A b)).2.1
    have h2 : aLl (aList A (aPe A b) (aLl A (aPe A b) ++ [b])) (aPe A b) = aLl A (aPe A b) ++ [b] := updN_eq _ _ _
    rw [h2] at this
    simp at this
    omega
  have q4 := cp.2.2.2.1 (aPe A b) (by omega)
  have hlsl : nI (lsM A (aLl A (aPe A b))) ||| nI (2 ^ sSlot A b) = nI (lsM A (aLl A (aPe A b) ++ [b])) := by
    rw [n_or]
    unfold lsM
    rw [List.foldl_append]
    rfl
  have hsh := n_shl 1 (k := sSlot A b) hsl
  rw [Nat.one_mul] at hsh
  generalize hP : aPe A b = p at *
  generalize hL : aLl A p = l at *
  generalize hLs : lsM A (l ++ [b]) = ls2 at *
  have hz : (nI 0 = (0 : Int32)) = True := by rw [nI_0]; simp
  have z5 : ¬ 5 ≤ l.length := by omega
  have hfin : ∃ h', f_S_list [.ref 1, .int (nI b)] h = some (some (.int (nI (l.length + 1))), h') ∧ Fr (fun a j => okM a j) h h' ∧ ∀ a j, hI h' a j = if a = 20 ∧ j = p then nI (l.length + 1) else if a = 21 ∧ j = p then nI ls2 else if a = 23 ∧ j = b then nI (lsM A l) else if a = 22 ∧ j = b then nI l.length else if a = 19 ∧ j = 5 * p + l.length then nI b else if a = 77 ∧ j = 4 then nI 0 else hI h a j := by
    refine ⟨hSetI (hSetI (hSetI (hSetI (hSetI (hSetI h 77 4 (nI 0)) 19 (5 * p + l.length) (nI b)) 22 b (nI l.length)) 23 b (nI (lsM A l))) 21 p (nI ls2)) 20 p (nI (l.length + 1)), ?_, Fr_trans (Fr_trans (Fr_trans (Fr_trans (Fr_trans (Fr_set _ (Or.inr (Or.inl ⟨rfl, rfl⟩))) (Fr_set _ (Or.inl (by omega)))) (Fr_set _ (Or.inl (by omega)))) (Fr_set _ (Or.inl (by omega)))) (Fr_set _ (Or.inl (by omega)))) (Fr_set _ (Or.inl (by omega))), fun a j => by rw [hI_setI, hI_setI, hI_setI, hI_setI, hI_setI, hI_setI]⟩
    have hs1 : Shape (hSetI h 77 4 (nI 0)) := hs
    have hs2 : Shape (hSetI (hSetI h 77 4 (nI 0)) 19 (5 * p + l.length) (nI b)) := hs
    have hs3 : Shape (hSetI (hSetI (hSetI h 77 4 (nI 0)) 19 (5 * p + l.length) (nI b)) 22 b (nI l.length)) := hs
    have hs4 : Shape (hSetI (hSetI (hSetI (hSetI h 77 4 (nI 0)) 19 (5 * p + l.length) (nI b)) 22 b (nI l.length)) 23 b (nI (lsM A l))) := hs
    have hs5 : Shape (hSetI (hSetI (hSetI (hSetI (hSetI h 77 4 (nI 0)) 19 (5 * p + l.length) (nI b)) 22 b (nI l.length)) 23 b (nI (lsM A l))) 21 p (nI ls2)) := hs
    have a1 : hI (hSetI h 77 4 (nI 0)) 3 b = nI p := by rw [hI_setI, if_neg (by omega)]; exact e1
    have a2 : hI (hSetI h 77 4 (nI 0)) 8 b = nI (sSlot A b) := by rw [hI_setI, if_neg (by omega)]; exact e8
    have a3 : hI (hSetI h 77 4 (nI 0)) 20 p = nI l.length := by rw [hI_setI, if_neg (by omega)]; exact q4.2.1
    have a4 : hI (hSetI (hSetI (hSetI h 77 4 (nI 0)) 19 (5 * p + l.length) (nI b)) 22 b (nI l.length)) 21 p = nI (lsM A l) := by rw [hI_setI, if_neg (by omega), hI_setI, if_neg (by omega), hI_setI, if_neg (by omega)]; exact q4.2.2.1
    have a5 : hI (hSetI (hSetI (hSetI (hSetI h 77 4 (nI 0)) 19 (5 * p + l.length) (nI b)) 22 b (nI l.length)) 23 b (nI (lsM A l))) 21 p = nI (lsM A l) := by rw [hI_setI, if_neg (by omega)]; exact a4
    clear d q4 wB wl r0 mk cs cp cb
    generalize h6e : hSetI (hSetI (hSetI (hSetI (hSetI (hSetI h 77 4 (nI 0)) 19 (5 * p + l.length) (nI b)) 22 b (nI l.length)) 23 b (nI (lsM A l))) 21 p (nI ls2)) 20 p (nI (l.length + 1)) = h6 at *
    generalize h5e : hSetI (hSetI (hSetI (hSetI (hSetI h 77 4 (nI 0)) 19 (5 * p + l.length) (nI b)) 22 b (nI l.length)) 23 b (nI (lsM A l))) 21 p (nI ls2) = h5 at *
    generalize h4e : hSetI (hSetI (hSetI (hSetI h 77 4 (nI 0)) 19 (5 * p + l.length) (nI b)) 22 b (nI l.length)) 23 b (nI (lsM A l)) = h4 at *
    generalize h3e : hSetI (hSetI (hSetI h 77 4 (nI 0)) 19 (5 * p + l.length) (nI b)) 22 b (nI l.length) = h3 at *
    generalize h2e : hSetI (hSetI h 77 4 (nI 0)) 19 (5 * p + l.length) (nI b) = h2 at *
    generalize h1e : hSetI h 77 4 (nI 0) = h1 at *
    have e5 : p * 5 + l.length = 5 * p + l.length := by omega
    simp (disch := first | assumption | omega) [f_S_list, body_S_list, j_meth, j_out, j_rok, j_pad, lg_sl, s_seq_w, isN_inl, isN_inr, s_if, jb, x_c, x_iloc, x_aloc, x_lloc, x_bin, x_un, o_add, o_sub, o_mul, o_and, o_or, o_xor, o_shl, o_shr, o_ushr, o_max, o_min, o_i2b, o_i2c, o_i2l, o_l2i, x_fld, j_fget, x_idx, j_aget, x_len, j_alen, x_ofb, x_ite, xs_nil, xs_cons, x_callv, x_calls, s_callv, s_calls, j_recv, j_ret, j_retv, b_cmp, b_and, b_or, b_not, b_ofi, b_ite, b_true, s_skip, s_set, j_ty, j_lset, j_kill, s_inc, s_fput, j_fput, s_fop, s_aput, j_aput, j_nar, s_aop, s_ret, s_retv, s_go, s_pop, x_linc, x_finc, Value.category, if_icmp.holds, List.flatMap_cons, List.flatMap_nil, List.length_cons, List.length_append, List.length_nil, List.set_cons_succ, List.set_cons_zero, List.getElem?_cons_succ, List.getElem?_cons_zero, List.replicate, ite_and', ite_or', ite_int', nI_leI, nI_ltI, nI_eq, nI_add, nI_1, pk_mul, nI_clamp, n_in', nI_pos', nI_pos, n_m1e, n_01, n_10, sT_1, sR_1_0, sR_1_1, sR_1_2, sR_1_3, sR_1_4, sR_1_5, sR_1_6, sR_1_7, sR_1_8, sR_1_9, sT_2, sT_3, sT_4, sT_5, sT_6, sT_7, sT_8, sT_9, sT_10, sT_11, sT_12, sT_13, sT_14, sR_2_1, sR_2_2, sR_2_3, sR_2_4, sR_2_5, sR_2_6, sR_2_7, sR_2_8, sR_2_9, sR_2_10, sR_2_11, sR_2_12, sT_15, sT_16, sT_17, sT_18, sT_19, sT_20, sT_21, sT_22, sT_23, sR_15_1, sR_15_2, sR_15_3, sR_15_4, sR_15_5, sR_15_6, sR_15_7, sR_15_8, sT_24, sT_25, sT_26, sT_27, sT_28, sT_29, sR_24_1, sR_24_2, sR_24_3, sR_24_4, sR_24_5, sT_71, sT_72, sR_71_0, sR_71_1, sR_71_2, sR_71_3, sR_71_4, sT_73, sT_74, sT_75, sR_73_0, sR_73_1, sR_73_2, sR_73_3, sR_73_4, sR_73_5, sT_84, sT_85, sT_86, sT_87, sR_84_0, sR_84_1, sR_84_2, sR_84_3, sR_84_4, sR_84_5, sT_88, sT_89, sR_88_0, sT_90, sT_91, sR_90_0, f_P_enlist, body_P_enlist, ex, h10, c22, s77, hz, h1e, a1, a2, hsh, a3, z5, e5, h2e, h3e, a4, h4e, a5, hlsl, h5e, h6e]
  obtain ⟨h', ee, f1, g⟩ := hfin
  refine ⟨h', ee, RC_new (B := aList A p (l ++ [b])) r0 sp f1 (fun a j q => Or.inl q) wB ?_ ?_ ?_ (DK_ag w wB (fun f _ => ag_list A _ _ f) (DK_fr' d f1 fun a j q => q)) ?_ ?_⟩
  · exact CB_eq2 (A := A) cb fun a j h1 h2 => by
      rw [g, if_neg (by omega), if_neg (by omega), if_neg (by omega), if_neg (by omega), if_neg (by omega), if_neg (by omega)]
  · obtain ⟨p1, p2, p3, p4, p5, p6⟩ := cp
    have ge : ∀ a j, 15 ≤ a → a ≤ 18 → hI h' a j = hI h a j := fun a j h1 h2 => by
      rw [g, if_neg (by omega), if_neg (by omega), if_neg (by omega), if_neg (by omega), if_neg (by omega), if_neg (by omega)]
    refine ⟨by rw [ge 15 0 (by omega) (by omega)]; exact p1, fun q hq => by rw [ge 16 q (by omega) (by omega)]; exact p2 q hq, fun q hq => by rw [ge 17 q (by omega) (by omega)]; exact p3 q hq, fun q hq => ?_, fun c hc => ?_, fun c k hc hk => ?_⟩
    · rw [ge 18 q (by omega) (by omega)]
      refine ⟨(p4 q hq).1, ?_⟩
      show hI h' 20 q = nI (updN (aLl A) p (l ++ [b]) q).length ∧ hI h' 21 q = nI (lsM A (updN (aLl A) p (l ++ [b]) q)) ∧ ∀ k, k < (updN (aLl A) p (l ++ [b]) q).length → hI h' 19 (5 * q + k) = nI ((updN (aLl A) p (l ++ [b]) q).getD k 0)
      by_cases e : q = p
      · subst e
        rw [updN_eq]
        refine ⟨by rw [g, if_pos ⟨rfl, rfl⟩]; simp, by rw [g, if_neg (by omega), if_pos ⟨rfl, rfl⟩, hLs], fun k hk => ?_⟩
        rw [g, if_neg (by omega), if_neg (by omega), if_neg (by omega), if_neg (by omega)]
        simp only [List.length_append, List.length_cons, List.length_nil] at hk
        by_cases e2 : k = l.length
        · rw [if_pos ⟨rfl, by omega⟩, e2]; simp
        · rw [if_neg (by omega), if_neg (by omega), (p4 q hq).2.2.2 k (by rw [hL]; omega), hL]
          rw [List.getD_eq_getElem?_getD, List.getD_eq_getElem?_getD, List.getElem?_append_left (by omega)]
      · rw [updN_ne _ _ e]
        refine ⟨by rw [g, if_neg (by omega), if_neg (by omega), if_neg (by omega), if_neg (by omega), if_neg (by omega), if_neg (by omega)]; exact (p4 q hq).2.1, by rw [g, if_neg (by omega), if_neg (by omega), if_neg (by omega), if_neg (by omega), if_neg (by omega), if_neg (by omega)]; exact (p4 q hq).2.2.1, fun k hk => ?_⟩
        have hk5 := (w.2.2.2.1 q).2.1
        rw [g, if_neg (by omega), if_neg (by omega), if_neg (by omega), if_neg (by omega), if_neg (by omega), if_neg (by omega)]
        exact (p4 q hq).2.2.2 k hk
    · rw [plc_list, fst1_app hnm]
      show _ = if c < aNb A then _ else _
      rw [g, if_neg (by omega), if_neg (by omega), if_neg (by omega)]
      by_cases e : c = b
      · rw [if_pos ⟨rfl, e⟩, e, if_pos hb, if_pos hP, if_pos rfl, oI_s]
      · rw [if_neg (fun q => e q.2), if_neg (by omega), if_neg (by omega), if_neg e, p5 c hc]
        by_cases e2 : c < aNb A
        · rw [if_pos e2, if_pos e2]
          by_cases e3 : aPe A c = p
          · rw [if_pos e3]
            unfold sPlc
            rw [e3, hL]
          · rw [if_neg e3]
        · rw [if_neg e2, if_neg e2]
    · rw [plc_list, fst1_app hnm] at hk
      show _ = nI (lsM A ((updN (aLl A) p (l ++ [b]) (aPe A c)).take k))
      rw [g, if_neg (by omega), if_neg (by omega)]
      by_cases e : c = b
      · subst e
        rw [if_pos hP, if_pos rfl] at hk
        have hk' : l.length = k := by simpa using hk
        rw [if_pos ⟨rfl, rfl⟩, hP, updN_eq, ← hk']
        simp
      · rw [if_neg e] at hk
        rw [if_neg (fun q => e q.2), if_neg (by omega), if_neg (by omega), if_neg (by omega)]
        by_cases e3 : aPe A c = p
        · rw [if_pos e3] at hk
          have hkl := fst1_lt hk
          rw [e3, updN_eq, List.take_append_of_le_length (by omega)]
          have := p6 c k hc (by unfold sPlc; rw [e3, hL]; exact hk)
          rw [e3, hL] at this
          exact this
        · rw [if_neg e3] at hk
          rw [updN_ne _ _ e3]
          exact p6 c k hc hk
  · exact CC_eq2 (A := A) mk.2 fun a j h1 h2 => by
      rw [g, if_neg (by omega), if_neg (by omega), if_neg (by omega), if_neg (by omega), if_neg (by omega), if_neg (by omega)]
  · rw [g, if_neg (by omega), if_neg (by omega), if_neg (by omega), if_neg (by omega), if_neg (by omega), if_neg (by omega)]
    exact c11
  · rw [g, if_neg (by omega), if_neg (by omega), if_neg (by omega), if_neg (by omega), if_neg (by omega), if_pos ⟨rfl, rfl⟩]
    exact nI_0
theorem e_P_strike_1 {A : AS} {h : jHp} (hs : Shape h) (w : WF A) (cp : CP A h) {p : Nat} (hp : p < 7) : ∃ h', s_loop 1 2 lc_P_strike_1 lb_P_strike_1 lu_P_strike_1 ([.ref 15, .int (nI p), .int (nI (aLl A p).length), .int (nI 0)], h) = some (.inl 0, ([.ref 15, .int (nI p), .int (nI (aLl A p).length), .int (nI (aLl A p).length)], h')) ∧ Fr (fun a _ => a = 22) h h' ∧ ∀ b, hI h' 22 b = if b ∈ aLl A p then -1 else hI h 22 b := by
  have h20 := w.2.2.1.1
  have h5 := (w.2.2.2.1 p).2.1
  have hl := (cp.2.2.2.1 p hp).2.2.2
  have hL := loop_wp (lb := 1) (lc := 2) (c := lc_P_strike_1) (b := lb_P_strike_1) (u := lu_P_strike_1) (aLl A p).length
    (fun i st => ∃ h', st = ([.ref 15, .int (nI p), .int (nI (aLl A p).length), .int (nI i)], h') ∧ Fr (fun a _ => a = 22) h h' ∧ ∀ b, hI h' 22 b = if b ∈ (aLl A p).take i then -1 else hI h 22 b)
    (fun r => ∃ h', r = (.inl 0, ([.ref 15, .int (nI p), .int (nI (aLl A p).length), .int (nI (aLl A p).length)], h')) ∧ Fr (fun a _ => a = 22) h h' ∧ ∀ b, hI h' 22 b = if b ∈ (aLl A p).take (aLl A p).length then -1 else hI h 22 b)
    ?_ ?_ ([.ref 15, .int (nI p), .int (nI (aLl A p).length), .int (nI 0)], h) ⟨h, rfl, Fr_refl _ _, fun b => by simp⟩
  · obtain ⟨r, e, h', rfl, f, c⟩ := hL
    rw [List.take_length] at c
    exact ⟨h', e, f, c⟩
  · rintro i st hi ⟨h1, rfl, f1, c1⟩
    left
    have hs1 := Fr_shape hs f1
    have c19 := hl i hi
    rw [← Fr_I f1 (a := 19) (by omega)] at c19
    have hb := ((w.2.2.2.1 p).2.2.2 _ (getD_mem' (d := 0) hi)).1
    refine ⟨([.ref 15, .int (nI p), .int (nI (aLl A p).length), .int (nI (i + 1))], hSetI h1 22 ((aLl A p).getD i 0) (-1)), ?_, _, rfl, Fr_trans f1 (Fr_set _ rfl), fun b => ?_⟩
    · generalize (aLl A p).getD i 0 = c at *
      have e5 : p * 5 + i = 5 * p + i := by omega
      simp (disch := first | assumption | omega) [lstp, lc_P_strike_1, lb_P_strike_1, lu_P_strike_1, j_meth, j_out, j_rok, j_pad, lg_sl, s_seq_w, isN_inl, isN_inr, s_if, jb, x_c, x_iloc, x_aloc, x_lloc, x_bin, x_un, o_add, o_sub, o_mul, o_and, o_or, o_xor, o_shl, o_shr, o_ushr, o_max, o_min, o_i2b, o_i2c, o_i2l, o_l2i, x_fld, j_fget, x_idx, j_aget, x_len, j_alen, x_ofb, x_ite, xs_nil, xs_cons, x_callv, x_calls, s_callv, s_calls, j_recv, j_ret, j_retv, b_cmp, b_and, b_or, b_not, b_ofi, b_ite, b_true, s_skip, s_set, j_ty, j_lset, j_kill, s_inc, s_fput, j_fput, s_fop, s_aput, j_aput, j_nar, s_aop, s_ret, s_retv, s_go, s_pop, x_linc, x_finc, Value.category, if_icmp.holds, List.flatMap_cons, List.flatMap_nil, List.length_cons, List.length_append, List.length_nil, List.set_cons_succ, List.set_cons_zero, List.getElem?_cons_succ, List.getElem?_cons_zero, List.replicate, ite_and', ite_or', ite_int', nI_leI, nI_ltI, nI_eq, nI_add, nI_1, pk_mul, nI_clamp, n_in', nI_pos', nI_pos, n_m1e, n_01, n_10, sT_1, sR_1_0, sR_1_1, sR_1_2, sR_1_3, sR_1_4, sR_1_5, sR_1_6, sR_1_7, sR_1_8, sR_1_9, sT_2, sT_3, sT_4, sT_5, sT_6, sT_7, sT_8, sT_9, sT_10, sT_11, sT_12, sT_13, sT_14, sR_2_1, sR_2_2, sR_2_3, sR_2_4, sR_2_5, sR_2_6, sR_2_7, sR_2_8, sR_2_9, sR_2_10, sR_2_11, sR_2_12, sT_15, sT_16, sT_17, sT_18, sT_19, sT_20, sT_21, sT_22, sT_23, sR_15_1, sR_15_2, sR_15_3, sR_15_4, sR_15_5, sR_15_6, sR_15_7, sR_15_8, sT_24, sT_25, sT_26, sT_27, sT_28, sT_29, sR_24_1, sR_24_2, sR_24_3, sR_24_4, sR_24_5, sT_71, sT_72, sR_71_0, sR_71_1, sR_71_2, sR_71_3, sR_71_4, sT_73, sT_74, sT_75, sR_73_0, sR_73_1, sR_73_2, sR_73_3, sR_73_4, sR_73_5, sT_84, sT_85, sT_86, sT_87, sR_84_0, sR_84_1, sR_84_2, sR_84_3, sR_84_4, sR_84_5, sT_88, sT_89, sR_88_0, sT_90, sT_91, sR_90_0, hi, e5, c19]
    · rw [hI_setI, c1 b]
      have hmem : b ∈ (aLl A p).take (i + 1) ↔ b ∈ (aLl A p).take i ∨ b = (aLl A p).getD i 0 := by
        rw [List.take_succ, List.mem_append, List.getD_eq_getElem?_getD, List.getElem?_eq_getElem hi]
        simp
      by_cases e : b = (aLl A p).getD i 0
      · rw [if_pos ⟨rfl, e⟩, if_pos (hmem.mpr (Or.inr e))]
      · rw [if_neg (fun q => e q.2)]
        by_cases e2 : b ∈ (aLl A p).take i
        · rw [if_pos e2, if_pos (hmem.mpr (Or.inl e2))]
        · rw [if_neg e2, if_neg (fun q => (hmem.mp q).elim e2 e)]
  · rintro st ⟨h1, rfl, f1, c1⟩
    refine ⟨_, ?_, h1, rfl, f1, c1⟩
    simp (disch := first | assumption | omega) [lstp, lc_P_strike_1, lb_P_strike_1, lu_P_strike_1, j_meth, j_out, j_rok, j_pad, lg_sl, s_seq_w, isN_inl, isN_inr, s_if, jb, x_c, x_iloc, x_aloc, x_lloc, x_bin, x_un, o_add, o_sub, o_mul, o_and, o_or, o_xor, o_shl, o_shr, o_ushr, o_max, o_min, o_i2b, o_i2c, o_i2l, o_l2i, x_fld, j_fget, x_idx, j_aget, x_len, j_alen, x_ofb, x_ite, xs_nil, xs_cons, x_callv, x_calls, s_callv, s_calls, j_recv, j_ret, j_retv, b_cmp, b_and, b_or, b_not, b_ofi, b_ite, b_true, s_skip, s_set, j_ty, j_lset, j_kill, s_inc, s_fput, j_fput, s_fop, s_aput, j_aput, j_nar, s_aop, s_ret, s_retv, s_go, s_pop, x_linc, x_finc, Value.category, if_icmp.holds, List.flatMap_cons, List.flatMap_nil, List.length_cons, List.length_append, List.length_nil, List.set_cons_succ, List.set_cons_zero, List.getElem?_cons_succ, List.getElem?_cons_zero, List.replicate, ite_and', ite_or', ite_int', nI_leI, nI_ltI, nI_eq, nI_add, nI_1, pk_mul, nI_clamp, n_in', nI_pos', nI_pos, n_m1e, n_01, n_10, sT_1, sR_1_0, sR_1_1, sR_1_2, sR_1_3, sR_1_4, sR_1_5, sR_1_6, sR_1_7, sR_1_8, sR_1_9, sT_2, sT_3, sT_4, sT_5, sT_6, sT_7, sT_8, sT_9, sT_10, sT_11, sT_12, sT_13, sT_14, sR_2_1, sR_2_2, sR_2_3, sR_2_4, sR_2_5, sR_2_6, sR_2_7, sR_2_8, sR_2_9, sR_2_10, sR_2_11, sR_2_12, sT_15, sT_16, sT_17, sT_18, sT_19, sT_20, sT_21, sT_22, sT_23, sR_15_1, sR_15_2, sR_15_3, sR_15_4, sR_15_5, sR_15_6, sR_15_7, sR_15_8, sT_24, sT_25, sT_26, sT_27, sT_28, sT_29, sR_24_1, sR_24_2, sR_24_3, sR_24_4, sR_24_5, sT_71, sT_72, sR_71_0, sR_71_1, sR_71_2, sR_71_3, sR_71_4, sT_73, sT_74, sT_75, sR_73_0, sR_73_1, sR_73_2, sR_73_3, sR_73_4, sR_73_5, sT_84, sT_85, sT_86, sT_87, sR_84_0, sR_84_1, sR_84_2, sR_84_3, sR_84_4, sR_84_5, sT_88, sT_89, sR_88_0, sT_90, sT_91, sR_90_0]
theorem o_S_clear {A : AS} {tx : List Nat} {rw : List Int32} {h : jHp} (r : RC A tx rw h) (x : Int32) : ∃ h', f_S_clear [.ref 1, .int x] h = some (some (.int (vClear A x).1), h') ∧ RC (vClear A x).2 tx rw h' ∧ FC h h' := by
  have r0 := r
  obtain ⟨mk, ⟨ca, bl, d, sp⟩, c11, ct, cr, cs⟩ := r
  have hs := mk.1.1
  have w := mk.1.2.1
  have cb := mk.1.2.2.1
  have cp := mk.1.2.2.2
  have hn := w.1.1
  have s77 := sT_77 hs
  have ex := e_P_has hs w cp x
  have h10 : ((1 : Int32) = 0) = False := by decide
  unfold vClear
  by_cases hx : j_in x (aNp A) = true
  case neg =>
    rw [if_neg hx] at ex ⊢
    refine ⟨h, ?_, r0, FC_refl h⟩
    simp (disch := first | assumption | omega) [f_S_clear, body_S_clear, j_meth, j_out, j_rok, j_pad, lg_sl, s_seq_w, isN_inl, isN_inr, s_if, jb, x_c, x_iloc, x_aloc, x_lloc, x_bin, x_un, o_add, o_sub, o_mul, o_and, o_or, o_xor, o_shl, o_shr, o_ushr, o_max, o_min, o_i2b, o_i2c, o_i2l, o_l2i, x_fld, j_fget, x_idx, j_aget, x_len, j_alen, x_ofb, x_ite, xs_nil, xs_cons, x_callv, x_calls, s_callv, s_calls, j_recv, j_ret, j_retv, b_cmp, b_and, b_or, b_not, b_ofi, b_ite, b_true, s_skip, s_set, j_ty, j_lset, j_kill, s_inc, s_fput, j_fput, s_fop, s_aput, j_aput, j_nar, s_aop, s_ret, s_retv, s_go, s_pop, x_linc, x_finc, Value.category, if_icmp.holds, List.flatMap_cons, List.flatMap_nil, List.length_cons, List.length_append, List.length_nil, List.set_cons_succ, List.set_cons_zero, List.getElem?_cons_succ, List.getElem?_cons_zero, List.replicate, ite_and', ite_or', ite_int', nI_leI, nI_ltI, nI_eq, nI_add, nI_1, pk_mul, nI_clamp, n_in', nI_pos', nI_pos, n_m1e, n_01, n_10, sT_1, sR_1_0, sR_1_1, sR_1_2, sR_1_3, sR_1_4, sR_1_5, sR_1_6, sR_1_7, sR_1_8, sR_1_9, sT_2, sT_3, sT_4, sT_5, sT_6, sT_7, sT_8, sT_9, sT_10, sT_11, sT_12, sT_13, sT_14, sR_2_1, sR_2_2, sR_2_3, sR_2_4, sR_2_5, sR_2_6, sR_2_7, sR_2_8, sR_2_9, sR_2_10, sR_2_11, sR_2_12, sT_15, sT_16, sT_17, sT_18, sT_19, sT_20, sT_21, sT_22, sT_23, sR_15_1, sR_15_2, sR_15_3, sR_15_4, sR_15_5, sR_15_6, sR_15_7, sR_15_8, sT_24, sT_25, sT_26, sT_27, sT_28, sT_29, sR_24_1, sR_24_2, sR_24_3, sR_24_4, sR_24_5, sT_71, sT_72, sR_71_0, sR_71_1, sR_71_2, sR_71_3, sR_71_4, sT_73, sT_74, sT_75, sR_73_0, sR_73_1, sR_73_2, sR_73_3, sR_73_4, sR_73_5, sT_84, sT_85, sT_86, sT_87, sR_84_0, sR_84_1, sR_84_2, sR_84_3, sR_84_4, sR_84_5, sT_88, sT_89, sR_88_0, sT_90, sT_91, sR_90_0, ex]
  rw [if_pos hx] at ex ⊢
  obtain ⟨p, hp, rfl⟩ := j_in_ex hx (by omega)
  rw [nI_clamp (by omega)]
  have wB : WF (aList A p []) := WF_list w hp List.nodup_nil fun b hb => by cases hb
  have f0 : Fr (fun a j => okM a j) h (hSetI h 77 4 (nI 0)) := Fr_set _ (Or.inr (Or.inl ⟨rfl, rfl⟩))
  have hs1 : Shape (hSetI h 77 4 (nI 0)) := hs
  have cp1 : CP A (hSetI h 77 4 (nI 0)) := CP_eq2 cp fun a j h1 h2 => by rw [hI_setI, if_neg (by omega)]
  have g1 : ∀ a j, hI (hSetI h 77 4 (nI 0)) a j = if a = 77 ∧ j = 4 then nI 0 else hI h a j := fun a j => by rw [hI_setI]
  generalize h1e : hSetI h 77 4 (nI 0) = h1 at *
  obtain ⟨h2, e2, f2, c2⟩ := e_P_strike_1 hs1 w cp1 (p := p) (by omega)
  have hs2 := Fr_shape hs1 f2
  have a20 := (cp1.2.2.2.1 p (by omega)).2.1
  have hz : (nI 0 = (0 : Int32)) = True := by rw [nI_0]; simp
  have f2' : Fr (fun a j => okM a j) h1 h2 := Fr_mono f2 fun a j q => Or.inl (by omega)
  have f3 : Fr (fun a j => okM a j) h2 (hSetI (hSetI h2 20 p (nI 0)) 21 p (nI 0)) := Fr_trans (Fr_set _ (Or.inl (by omega))) (Fr_set _ (Or.inl (by omega)))
  have f1 := Fr_trans f0 (Fr_trans f2' f3)
  have h5 := (w.2.2.2.1 p).2.1
  have g : ∀ a j, hI (hSetI (hSetI h2 20 p (nI 0)) 21 p (nI 0)) a j = if a = 21 ∧ j = p then nI 0 else if a = 20 ∧ j = p then nI 0 else if a = 22 then (if j ∈ aLl A p then -1 else hI h 22 j) else if a = 77 ∧ j = 4 then nI 0 else hI h a j := fun a j => by
    rw [hI_setI, hI_setI]
    by_cases q1 : a = 21 ∧ j = p
    · rw [if_pos q1, if_pos q1]
    · rw [if_neg q1, if_neg q1]
      by_cases q2 : a = 20 ∧ j = p
      · rw [if_pos q2, if_pos q2]
      · rw [if_neg q2, if_neg q2]
        by_cases q3 : a = 22
        · have g22 : hI h1 22 j = hI h 22 j := by rw [g1, if_neg (by omega)]
          rw [if_pos q3, q3, c2, g22]
        · rw [if_neg q3, Fr_I f2 q3, g1]
  refine ⟨hSetI (hSetI h2 20 p (nI 0)) 21 p (nI 0), ?_, RC_new (B := aList A p []) r0 sp f1 (fun a j q => Or.inl q) wB ?_ ?_ ?_ (DK_ag w wB (fun f _ => ag_list A _ _ f) (DK_fr' d f1 fun a j q => q)) ?_ ?_⟩
  · have hs3 : Shape (hSetI h2 20 p (nI 0)) := hs2
    clear d g g1 f0 f1 f2 f2' f3 wB r0 mk cs cp cb
    generalize h4e : hSetI (hSetI h2 20 p (nI 0)) 21 p (nI 0) = h4 at *
    generalize h3e : hSetI h2 20 p (nI 0) = h3 at *
    simp (disch := first | assumption | omega) [f_S_clear, body_S_clear, j_meth, j_out, j_rok, j_pad, lg_sl, s_seq_w, isN_inl, isN_inr, s_if, jb, x_c, x_iloc, x_aloc, x_lloc, x_bin, x_un, o_add, o_sub, o_mul, o_and, o_or, o_xor, o_shl, o_shr, o_ushr, o_max, o_min, o_i2b, o_i2c, o_i2l, o_l2i, x_fld, j_fget, x_idx, j_aget, x_len, j_alen, x_ofb, x_ite, xs_nil, xs_cons, x_callv, x_calls, s_callv, s_calls, j_recv, j_ret, j_retv, b_cmp, b_and, b_or, b_not, b_ofi, b_ite, b_true, s_skip, s_set, j_ty, j_lset, j_kill, s_inc, s_fput, j_fput, s_fop, s_aput, j_aput, j_nar, s_aop, s_ret, s_retv, s_go, s_pop, x_linc, x_finc, Value.category, if_icmp.holds, List.flatMap_cons, List.flatMap_nil, List.length_cons, List.length_append, List.length_nil, List.set_cons_succ, List.set_cons_zero, List.getElem?_cons_succ, List.getElem?_cons_zero, List.replicate, ite_and', ite_or', ite_int', nI_leI, nI_ltI, nI_eq, nI_add, nI_1, pk_mul, nI_clamp, n_in', nI_pos', nI_pos, n_m1e, n_01, n_10, sT_1, sR_1_0, sR_1_1, sR_1_2, sR_1_3, sR_1_4, sR_1_5, sR_1_6, sR_1_7, sR_1_8, sR_1_9, sT_2, sT_3, sT_4, sT_5, sT_6, sT_7, sT_8, sT_9, sT_10, sT_11, sT_12, sT_13, sT_14, sR_2_1, sR_2_2, sR_2_3, sR_2_4, sR_2_5, sR_2_6, sR_2_7, sR_2_8, sR_2_9, sR_2_10, sR_2_11, sR_2_12, sT_15, sT_16, sT_17, sT_18, sT_19, sT_20, sT_21, sT_22, sT_23, sR_15_1, sR_15_2, sR_15_3, sR_15_4, sR_15_5, sR_15_6, sR_15_7, sR_15_8, sT_24, sT_25, sT_26, sT_27, sT_28, sT_29, sR_24_1, sR_24_2, sR_24_3, sR_24_4, sR_24_5, sT_71, sT_72, sR_71_0, sR_71_1, sR_71_2, sR_71_3, sR_71_4, sT_73, sT_74, sT_75, sR_73_0, sR_73_1, sR_73_2, sR_73_3, sR_73_4, sR_73_5, sT_84, sT_85, sT_86, sT_87, sR_84_0, sR_84_1, sR_84_2, sR_84_3, sR_84_4, sR_84_5, sT_88, sT_89, sR_88_0, sT_90, sT_91, sR_90_0, f_P_strike, body_P_strike, ex, h10, s77, hz, h1e, a20, e2, h3e, h4e]
  · exact CB_eq2 (A := A) cb fun a j h1 h2 => by
      rw [g, if_neg (by omega), if_neg (by omega), if_neg (by omega), if_neg (by omega)]
  · obtain ⟨p1, p2, p3, p4, p5, p6⟩ := cp
    have ge : ∀ a j, 15 ≤ a → a ≤ 19 → hI (hSetI (hSetI h2 20 p (nI 0)) 21 p (nI 0)) a j = hI h a j := fun a j h1 h2 => by
      rw [g, if_neg (by omega), if_neg (by omega), if_neg (by omega), if_neg (by omega)]
    refine ⟨by rw [ge 15 0 (by omega) (by omega)]; exact p1, fun q hq => by rw [ge 16 q (by omega) (by omega)]; exact p2 q hq, fun q hq => by rw [ge 17 q (by omega) (by omega)]; exact p3 q hq, fun q hq => ?_, fun c hc => ?_, fun c k hc hk => ?_⟩
    · rw [ge 18 q (by omega) (by omega)]
      refine ⟨(p4 q hq).1, ?_⟩
      show hI _ 20 q = nI (updN (aLl A) p [] q).length ∧ hI _ 21 q = nI (lsM A (updN (aLl A) p [] q)) ∧ ∀ k, k < (updN (aLl A) p [] q).length → hI _ 19 (5 * q + k) = nI ((updN (aLl A) p [] q).getD k 0)
      by_cases e : q = p
      · subst e
        rw [updN_eq]
        exact ⟨by rw [g, if_neg (by omega), if_pos ⟨rfl, rfl⟩]; rfl, by rw [g, if_pos ⟨rfl, rfl⟩]; rfl, fun k hk => by simp at hk⟩
      · rw [updN_ne _ _ e]
        refine ⟨by rw [g, if_neg (by omega), if_neg (by omega), if_neg (by omega), if_neg (by omega)]; exact (p4 q hq).2.1, by rw [g, if_neg (by omega), if_neg (by omega), if_neg (by omega), if_neg (by omega)]; exact (p4 q hq).2.2.1, fun k hk => ?_⟩
        rw [ge 19 _ (by omega) (by omega)]
        exact (p4 q hq).2.2.2 k hk
    · rw [plc_list]
      show _ = if c < aNb A then _ else _
      rw [g, if_neg (by omega), if_neg (by omega), if_pos rfl, p5 c hc]
      by_cases e2 : c < aNb A
      · rw [if_pos e2, if_pos e2]
        by_cases e3 : aPe A c = p
        · rw [if_pos e3]
          by_cases e4 : c ∈ aLl A p
          · rw [if_pos e4]; rfl
          · rw [if_neg e4, sPlc_none.mpr (by rw [e3]; exact e4)]; rfl
        · rw [if_neg e3, if_neg (fun q => e3 ((w.2.2.2.1 p).2.2.2 c q).2)]
      · rw [if_neg e2, if_neg e2, if_neg (fun q => e2 ((w.2.2.2.1 p).2.2.2 c q).1)]
    · rw [plc_list] at hk
      show _ = nI (lsM A ((updN (aLl A) p [] (aPe A c)).take k))
      by_cases e3 : aPe A c = p
      · rw [if_pos e3] at hk; cases hk
      · rw [if_neg e3] at hk
        rw [g, if_neg (by omega), if_neg (by omega), if_neg (by omega), if_neg (by omega), updN_ne _ _ e3]
        exact p6 c k hc hk
  · exact CC_eq2 (A := A) mk.2 fun a j h1 h2 => by
      rw [g, if_neg (by omega), if_neg (by omega), if_neg (by omega), if_neg (by omega)]
  · rw [g, if_neg (by omega), if_neg (by omega), if_neg (by omega), if_neg (by omega)]
    exact c11
  · rw [g, if_neg (by omega), if_neg (by omega), if_neg (by omega), if_pos ⟨rfl, rfl⟩]
    exact nI_0
