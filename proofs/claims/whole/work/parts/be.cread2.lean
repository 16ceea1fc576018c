/-! reading all of THE TEXT -/
theorem e_J_fill {h : jHp} {P n : Nat} (v : Int32) (hT0 : hT h P = (1, n)) (hP : P ≠ 0) (hn : n < 2 ^ 30) : ∃ h', f_J_fill [.ref P, .int v] h = some (none, h') ∧ Fr (fun a _ => a = P) h h' ∧ ∀ j, j < n → hI h' P j = v := by
  have hL := loop_wp (lb := 1) (lc := 2) (c := lc_J_fill_1) (b := lb_J_fill_1) (u := lu_J_fill_1) n
    (fun i st => ∃ h', st = ([.ref P, .int v, .int (nI i), .int (nI n)], h') ∧ Fr (fun a _ => a = P) h h' ∧ ∀ j, j < i → hI h' P j = v)
    (fun r => ∃ h', r = (.inl 0, ([.ref P, .int v, .int (nI n), .int (nI n)], h')) ∧ Fr (fun a _ => a = P) h h' ∧ ∀ j, j < n → hI h' P j = v)
    ?_ ?_ ([.ref P, .int v, .int (nI 0), .int (nI n)], h) ⟨h, rfl, Fr_refl _ _, fun j hj => by omega⟩
  · obtain ⟨r, e, h', rfl, f, c⟩ := hL
    refine ⟨h', ?_, f, c⟩
    simp only [nI_0] at e
    simp (disch := first | assumption | omega) [f_J_fill, body_J_fill, j_meth, j_out, j_rok, j_pad, lg_sl, s_seq_w, isN_inl, isN_inr, s_if, jb, x_c, x_iloc, x_aloc, x_lloc, x_bin, x_un, o_add, o_sub, o_mul, o_and, o_or, o_xor, o_shl, o_shr, o_ushr, o_max, o_min, o_i2b, o_i2c, o_i2l, o_l2i, x_fld, j_fget, x_idx, j_aget, x_len, j_alen, x_ofb, x_ite, xs_nil, xs_cons, x_callv, x_calls, s_callv, s_calls, j_recv, j_ret, j_retv, b_cmp, b_and, b_or, b_not, b_ofi, b_ite, b_true, s_skip, s_set, j_ty, j_lset, j_kill, s_inc, s_fput, j_fput, s_fop, s_aput, j_aput, j_nar, s_aop, s_ret, s_retv, s_go, s_pop, x_linc, x_finc, Value.category, if_icmp.holds, List.flatMap_cons, List.flatMap_nil, List.length_cons, List.length_append, List.length_nil, List.set_cons_succ, List.set_cons_zero, List.getElem?_cons_succ, List.getElem?_cons_zero, List.replicate, ite_and', ite_or', ite_int', nI_leI, nI_ltI, nI_eq, nI_add, nI_1, pk_mul, nI_clamp, n_in', nI_pos', nI_pos, n_m1e, n_01, n_10, hT0, nI_0, e]
    try rfl
  · rintro i st hi ⟨h1, rfl, f1, c1⟩
    left
    have t1 : hT h1 P = (1, n) := by rw [f1.1.1]; exact hT0
    refine ⟨([.ref P, .int v, .int (nI (i + 1)), .int (nI n)], hSetI h1 P i v), ?_, _, rfl, Fr_trans f1 (Fr_set _ rfl), fun j hj => ?_⟩
    · simp (disch := first | assumption | omega) [lstp, lc_J_fill_1, lb_J_fill_1, lu_J_fill_1, j_meth, j_out, j_rok, j_pad, lg_sl, s_seq_w, isN_inl, isN_inr, s_if, jb, x_c, x_iloc, x_aloc, x_lloc, x_bin, x_un, o_add, o_sub, o_mul, o_and, o_or, o_xor, o_shl, o_shr, o_ushr, o_max, o_min, o_i2b, o_i2c, o_i2l, o_l2i, x_fld, j_fget, x_idx, j_aget, x_len, j_alen, x_ofb, x_ite, xs_nil, xs_cons, x_callv, x_calls, s_callv, s_calls, j_recv, j_ret, j_retv, b_cmp, b_and, b_or, b_not, b_ofi, b_ite, b_true, s_skip, s_set, j_ty, j_lset, j_kill, s_inc, s_fput, j_fput, s_fop, s_aput, j_aput, j_nar, s_aop, s_ret, s_retv, s_go, s_pop, x_linc, x_finc, Value.category, if_icmp.holds, List.flatMap_cons, List.flatMap_nil, List.length_cons, List.length_append, List.length_nil, List.set_cons_succ, List.set_cons_zero, List.getElem?_cons_succ, List.getElem?_cons_zero, List.replicate, ite_and', ite_or', ite_int', nI_leI, nI_ltI, nI_eq, nI_add, nI_1, pk_mul, nI_clamp, n_in', nI_pos', nI_pos, n_m1e, n_01, n_10, hi, t1]
    · rw [hI_setI]
      by_cases e : j = i
      · rw [if_pos ⟨rfl, e⟩]
      · rw [if_neg (fun q => e q.2)]; exact c1 j (by omega)
  · rintro st ⟨h1, rfl, f1, c1⟩
    refine ⟨_, ?_, h1, rfl, f1, c1⟩
    simp (disch := first | assumption | omega) [lstp, lc_J_fill_1, lb_J_fill_1, lu_J_fill_1, j_meth, j_out, j_rok, j_pad, lg_sl, s_seq_w, isN_inl, isN_inr, s_if, jb, x_c, x_iloc, x_aloc, x_lloc, x_bin, x_un, o_add, o_sub, o_mul, o_and, o_or, o_xor, o_shl, o_shr, o_ushr, o_max, o_min, o_i2b, o_i2c, o_i2l, o_l2i, x_fld, j_fget, x_idx, j_aget, x_len, j_alen, x_ofb, x_ite, xs_nil, xs_cons, x_callv, x_calls, s_callv, s_calls, j_recv, j_ret, j_retv, b_cmp, b_and, b_or, b_not, b_ofi, b_ite, b_true, s_skip, s_set, j_ty, j_lset, j_kill, s_inc, s_fput, j_fput, s_fop, s_aput, j_aput, j_nar, s_aop, s_ret, s_retv, s_go, s_pop, x_linc, x_finc, Value.category, if_icmp.holds, List.flatMap_cons, List.flatMap_nil, List.length_cons, List.length_append, List.length_nil, List.set_cons_succ, List.set_cons_zero, List.getElem?_cons_succ, List.getElem?_cons_zero, List.replicate, ite_and', ite_or', ite_int', nI_leI, nI_ltI, nI_eq, nI_add, nI_1, pk_mul, nI_clamp, n_in', nI_pos', nI_pos, n_m1e, n_01, n_10]
def Wca (a b _j : Nat) : Prop := a ≤ b ∧ b ≤ a + 5
theorem e_Ch_reset {h : jHp} (hs : Shape h) {a : Nat} (ha : isCA a) : ∃ h', f_Ch_reset [.ref a] h = some (none, h') ∧ Fr (Wca a) h h' ∧ CHc C0 false a h' := by
  have hal := CA_lt ha
  have ha0 : a ≠ 0 := by omega
  have fa : Fr (Wca a) h (hSetI (hSetI (hSetI (hSetI h a 0 (nI 0)) a 1 (nI 8)) a 2 (nI 1000000)) a 3 (nI 0)) := Fr_trans (Fr_trans (Fr_trans (Fr_set _ ⟨by omega, by omega⟩) (Fr_set _ ⟨by omega, by omega⟩)) (Fr_set _ ⟨by omega, by omega⟩)) (Fr_set _ ⟨by omega, by omega⟩)
  have hsa := Fr_shape hs fa
  have u0 := (CA_of hs ha).1
  have T1 : hT (hSetI h a 0 (nI 0)) = hT h := rfl
  have T2 : hT (hSetI (hSetI h a 0 (nI 0)) a 1 (nI 8)) = hT h := rfl
  have T3 : hT (hSetI (hSetI (hSetI h a 0 (nI 0)) a 1 (nI 8)) a 2 (nI 1000000)) = hT h := rfl
  obtain ⟨w0, -, -, w6, w7, w8, -, -, x6, x7, x8⟩ := CA_of hsa ha
  have g : ∀ j, hI (hSetI (hSetI (hSetI (hSetI h a 0 (nI 0)) a 1 (nI 8)) a 2 (nI 1000000)) a 3 (nI 0)) a j = if j = 3 then nI 0 else if j = 2 then nI 1000000 else if j = 1 then nI 8 else if j = 0 then nI 0 else hI h a j := fun j => by
    rw [hI_setI, hI_setI, hI_setI, hI_setI]
    simp
  generalize hh4 : hSetI (hSetI (hSetI (hSetI h a 0 (nI 0)) a 1 (nI 8)) a 2 (nI 1000000)) a 3 (nI 0) = h4 at *
  generalize hh3 : hSetI (hSetI (hSetI h a 0 (nI 0)) a 1 (nI 8)) a 2 (nI 1000000) = h3 at *
  generalize hh2 : hSetI (hSetI h a 0 (nI 0)) a 1 (nI 8) = h2 at *
  generalize hh1 : hSetI h a 0 (nI 0) = h1 at *
  obtain ⟨h5, e5, f5, c5⟩ := e_J_fill (nI 0) x6 (by omega) (by decide)
  have hs5 := Fr_shape hsa f5
  obtain ⟨y0, -, -, -, y7, -, -, -, -, z7, -⟩ := CA_of hs5 ha
  obtain ⟨h6, e6, f6, c6⟩ := e_J_fill (nI 0) z7 (by omega) (by decide)
  have hs6 := Fr_shape hs5 f6
  obtain ⟨q0, -, -, -, -, q8, -, -, -, -, r8⟩ := CA_of hs6 ha
  obtain ⟨h7, e7, f7, c7⟩ := e_J_fill (nI 0) r8 (by omega) (by decide)
  have n3 : a + 3 ≠ 0 := by omega
  have n4 : a + 4 ≠ 0 := by omega
  have n5 : a + 5 ≠ 0 := by omega
  refine ⟨h7, ?_, Fr_trans fa (Fr_trans (Fr_mono f5 fun b j q => ⟨by omega, by omega⟩) (Fr_trans (Fr_mono f6 fun b j q => ⟨by omega, by omega⟩) (Fr_mono f7 fun b j q => ⟨by omega, by omega⟩))), ?_⟩
  · have hz : (nI 0 = (0 : Int32)) = True := by rw [nI_0]; simp
    clear c5 c6 c7 f5 f6 f7 fa g
    simp (disch := first | assumption | omega) [f_Ch_reset, body_Ch_reset, j_meth, j_out, j_rok, j_pad, lg_sl, s_seq_w, isN_inl, isN_inr, s_if, jb, x_c, x_iloc, x_aloc, x_lloc, x_bin, x_un, o_add, o_sub, o_mul, o_and, o_or, o_xor, o_shl, o_shr, o_ushr, o_max, o_min, o_i2b, o_i2c, o_i2l, o_l2i, x_fld, j_fget, x_idx, j_aget, x_len, j_alen, x_ofb, x_ite, xs_nil, xs_cons, x_callv, x_calls, s_callv, s_calls, j_recv, j_ret, j_retv, b_cmp, b_and, b_or, b_not, b_ofi, b_ite, b_true, s_skip, s_set, j_ty, j_lset, j_kill, s_inc, s_fput, j_fput, s_fop, s_aput, j_aput, j_nar, s_aop, s_ret, s_retv, s_go, s_pop, x_linc, x_finc, Value.category, if_icmp.holds, List.flatMap_cons, List.flatMap_nil, List.length_cons, List.length_append, List.length_nil, List.set_cons_succ, List.set_cons_zero, List.getElem?_cons_succ, List.getElem?_cons_zero, List.replicate, ite_and', ite_or', ite_int', nI_leI, nI_ltI, nI_eq, nI_add, nI_1, pk_mul, nI_clamp, n_in', nI_pos', nI_pos, n_m1e, n_01, n_10, sT_1, sR_1_0, sR_1_1, sR_1_2, sR_1_3, sR_1_4, sR_1_5, sR_1_6, sR_1_7, sR_1_8, sR_1_9, sT_2, sT_3, sT_4, sT_5, sT_6, sT_7, sT_8, sT_9, sT_10, sT_11, sT_12, sT_13, sT_14, sR_2_1, sR_2_2, sR_2_3, sR_2_4, sR_2_5, sR_2_6, sR_2_7, sR_2_8, sR_2_9, sR_2_10, sR_2_11, sR_2_12, sT_15, sT_16, sT_17, sT_18, sT_19, sT_20, sT_21, sT_22, sT_23, sR_15_1, sR_15_2, sR_15_3, sR_15_4, sR_15_5, sR_15_6, sR_15_7, sR_15_8, sT_24, sT_25, sT_26, sT_27, sT_28, sT_29, sR_24_1, sR_24_2, sR_24_3, sR_24_4, sR_24_5, sT_71, sT_72, sR_71_0, sR_71_1, sR_71_2, sR_71_3, sR_71_4, sT_73, sT_74, sT_75, sR_73_0, sR_73_1, sR_73_2, sR_73_3, sR_73_4, sR_73_5, sT_84, sT_85, sT_86, sT_87, sR_84_0, sR_84_1, sR_84_2, sR_84_3, sR_84_4, sR_84_5, sT_88, sT_89, sR_88_0, sT_90, sT_91, sR_90_0, u0, hz, hh1, T1, hh2, T2, hh3, T3, hh4, w0, w6, n3, e5, y0, y7, n4, e6, q0, q8, n5, e7]
  · have ga : ∀ j, hI h7 a j = hI h4 a j := fun j => by rw [Fr_I f7 (by omega), Fr_I f6 (by omega), Fr_I f5 (by omega)]
    refine ⟨by rw [ga, g]; rfl, by rw [ga, g]; rfl, by rw [ga, g]; rfl, by rw [ga, g]; rfl, fun k hk => by simp [C0, cKeys] at hk, fun k hk => ?_, fun p hp => ⟨?_, ?_⟩⟩
    · rw [Fr_I f7 (by omega), Fr_I f6 (by omega), c5 k hk]; rfl
    · rw [Fr_I f7 (by omega), c6 p hp]; rfl
    · rw [c7 p hp]; rfl
theorem nx_end {tx : List Nat} (hb : ∀ x ∈ tx, x < 256) (i : Nat) : (nx tx i = -1) = (¬ i < tx.length) := by
  unfold nx tg
  by_cases z : i < tx.length ∧ i < 60
  · rw [if_pos z]
    have := hb _ (getD_mem' (d := 0) z.1)
    simp only
    rw [n_m1e (by omega)]
    simp [z.1]
  · rw [if_neg z]
    simp only
    by_cases y : i < tx.length
    · rw [if_pos y]; simp [y]
    · rw [if_neg y]; simp [y]
theorem CHc_told {C : CH} {a : Nat} {h : jHp} (c : CHc C false a h) : CHc C true a (hSetI h a 0 (nI 1)) := by
  obtain ⟨c0, c1, c2, c3, c4, c5, c6⟩ := c
  refine ⟨by rw [hI_setI, if_pos ⟨rfl, rfl⟩]; decide, by rw [hI_setI, if_neg (by omega)]; exact c1, by rw [hI_setI, if_neg (by omega)]; exact c2, by rw [hI_setI, if_neg (by omega)]; exact c3, fun k hk => ?_, fun k hk => ?_, fun p hp => ?_⟩
  · rw [hI_setI, if_neg (by omega), hI_setI, if_neg (by omega)]; exact c4 k hk
  · rw [hI_setI, if_neg (by omega)]; exact c5 k hk
  · rw [hI_setI, if_neg (by omega), hI_setI, if_neg (by omega)]; exact c6 p hp
theorem pKs_le (tx : List Nat) : ∀ n i ks, (pKs tx n i ks).2 ≤ i + 2 * n := by
  intro n
  induction n with
  | zero => intro i ks; exact Nat.le_refl _
  | succ n ih =>
    intro i ks
    simp only [pKs]
    by_cases z : isPM (tg tx i) = true
    · rw [if_pos z]
      cases hk : pKey tx i with
      | mk o j =>
        have := (pKey_pos hk).2.1
        cases o with
        | none => simp only; omega
        | some k =>
          have := ih j (ks ++ [k])
          simp only
          omega
    · rw [if_neg z]; simp only; omega
theorem pKyA_le (tx : List Nat) (i : Nat) : (pKyA tx i).2 ≤ i + 10 := by
  unfold pKyA
  cases hk : pKey tx i with
  | mk o j =>
    have := (pKey_pos hk).2.1
    cases o with
    | none => simp only; omega
    | some k =>
      have := pKs_le tx 4 j [k]
      simp only
      omega
theorem pKep_le (tx : List Nat) (i : Nat) : (pKep tx i).2 ≤ i + 3 := by
  unfold pKep
  cases pDig tx 51 i with
  | none => simp only; omega
  | some k =>
    simp only
    split
    · cases pDig tx 57 (i + 2) <;> simp only <;> omega
    · simp only; omega
theorem pTwo_le (tx : List Nat) (sg i : Nat) : (pTwo tx sg i).2 ≤ i + 3 := by
  unfold pTwo
  cases pDig tx 54 i with
  | none => simp only; omega
  | some k =>
    simp only
    split
    · split
      · simp only; omega
      · cases pDig tx 54 (i + 2) <;> simp only <;> omega
    · simp only; omega
theorem pLn_le (tx : List Nat) (i : Nat) (C : CH) : (pLn tx i C).2 ≤ i + 11 := by
  have k1 := pKyA_le tx (i + 1)
  have k2 := pKep_le tx (i + 1)
  have k3 := pTwo_le tx 38 (i + 1)
  have k4 := pTwo_le tx 124 (i + 1)
  unfold pLn
  split
  · cases hp : pNum tx (i + 1) with
    | none => simp only; omega
    | some q => have := (pNum_lt hp).2.2; simp only; omega
  split
  · cases hp : pNum tx (i + 1) with
    | none => simp only; omega
    | some q => have := (pNum_lt hp).2.2; simp only; omega
  split
  · rcases hp : pKyA tx (i + 1) with ⟨_ | _, j⟩ <;> rw [hp] at k1 <;> simp only at k1 ⊢ <;> omega
  split
  · rcases hp : pKep tx (i + 1) with ⟨_ | _, j⟩ <;> rw [hp] at k2 <;> simp only at k2 ⊢ <;> omega
  split
  · rcases hp : pTwo tx 38 (i + 1) with ⟨_ | _, j⟩ <;> rw [hp] at k3 <;> simp only at k3 ⊢ <;> omega
  split
  · rcases hp : pTwo tx 124 (i + 1) with ⟨_ | _, j⟩ <;> rw [hp] at k4 <;> simp only at k4 ⊢ <;> omega
  · simp only; omega
theorem neg_ans : ∀ j, j < 200 → (-1 : Int32) - nI j < 0 := by decide +kernel
theorem rd_fail {tx : List Nat} {i a k j : Nat} {C : CH} {h : jHp} (r : RT tx i a h) (hi : i ≤ 63) (hk : k < 30) (c : CHc C false a h) (hC : CHk C k) (hp : pLn tx i C = (none, j)) : ∃ h', lstp 1 2 lc_T_read_1 lb_T_read_1 lu_T_read_1 ([.ref 88, .ref a, .int (nI (k + 1))], h) = some (.inr (.inr (some (.int (-1 - nI j))), ([.ref 88, .ref a, .int (nI (k + 1))], h'))) ∧ Fr (Wtc a) h h' := by
  obtain ⟨h1, e1, r1, f1, -⟩ := e_T_readLine r (by omega) c hC
  rw [hp] at e1 r1
  have hs := r.1
  have hs1 := r1.1
  have c2 := r1.2.2.2.1
  refine ⟨h1, ?_, f1⟩
  simp only [Option.isSome_none, Bool.false_eq_true, if_false] at e1
  have hk60 : k ≤ 59 := by omega
  simp (disch := first | assumption | omega) [lstp, lc_T_read_1, lb_T_read_1, lu_T_read_1, j_meth, j_out, j_rok, j_pad, lg_sl, s_seq_w, isN_inl, isN_inr, s_if, jb, x_c, x_iloc, x_aloc, x_lloc, x_bin, x_un, o_add, o_sub, o_mul, o_and, o_or, o_xor, o_shl, o_shr, o_ushr, o_max, o_min, o_i2b, o_i2c, o_i2l, o_l2i, x_fld, j_fget, x_idx, j_aget, x_len, j_alen, x_ofb, x_ite, xs_nil, xs_cons, x_callv, x_calls, s_callv, s_calls, j_recv, j_ret, j_retv, b_cmp, b_and, b_or, b_not, b_ofi, b_ite, b_true, s_skip, s_set, j_ty, j_lset, j_kill, s_inc, s_fput, j_fput, s_fop, s_aput, j_aput, j_nar, s_aop, s_ret, s_retv, s_go, s_pop, x_linc, x_finc, Value.category, if_icmp.holds, List.flatMap_cons, List.flatMap_nil, List.length_cons, List.length_append, List.length_nil, List.set_cons_succ, List.set_cons_zero, List.getElem?_cons_succ, List.getElem?_cons_zero, List.replicate, ite_and', ite_or', ite_int', nI_leI, nI_ltI, nI_eq, nI_add, nI_1, pk_mul, nI_clamp, n_in', nI_pos', nI_pos, n_m1e, n_01, n_10, sT_1, sR_1_0, sR_1_1, sR_1_2, sR_1_3, sR_1_4, sR_1_5, sR_1_6, sR_1_7, sR_1_8, sR_1_9, sT_2, sT_3, sT_4, sT_5, sT_6, sT_7, sT_8, sT_9, sT_10, sT_11, sT_12, sT_13, sT_14, sR_2_1, sR_2_2, sR_2_3, sR_2_4, sR_2_5, sR_2_6, sR_2_7, sR_2_8, sR_2_9, sR_2_10, sR_2_11, sR_2_12, sT_15, sT_16, sT_17, sT_18, sT_19, sT_20, sT_21, sT_22, sT_23, sR_15_1, sR_15_2, sR_15_3, sR_15_4, sR_15_5, sR_15_6, sR_15_7, sR_15_8, sT_24, sT_25, sT_26, sT_27, sT_28, sT_29, sR_24_1, sR_24_2, sR_24_3, sR_24_4, sR_24_5, sT_71, sT_72, sR_71_0, sR_71_1, sR_71_2, sR_71_3, sR_71_4, sT_73, sT_74, sT_75, sR_73_0, sR_73_1, sR_73_2, sR_73_3, sR_73_4, sR_73_5, sT_84, sT_85, sT_86, sT_87, sR_84_0, sR_84_1, sR_84_2, sR_84_3, sR_84_4, sR_84_5, sT_88, sT_89, sR_88_0, sT_90, sT_91, sR_90_0, hk60, e1, c2]
theorem rd_end {tx : List Nat} {i a k j : Nat} {C D : CH} {h : jHp} (r : RT tx i a h) (hi : i ≤ 63) (hj : j ≤ 63) (hk : k < 30) (c : CHc C false a h) (hC : CHk C k) (hp : pLn tx i C = (some D, j)) (he : ¬ j < tx.length) : ∃ h', lstp 1 2 lc_T_read_1 lb_T_read_1 lu_T_read_1 ([.ref 88, .ref a, .int (nI (k + 1))], h) = some (.inr (.inr (some (.int (nI (k + 1)))), ([.ref 88, .ref a, .int (nI (k + 1))], h'))) ∧ Fr (Wtc a) h h' ∧ CHc D true a h' := by
  obtain ⟨h1, e1, r1, f1, k1⟩ := e_T_readLine r (by omega) c hC
  rw [hp] at e1 r1 k1
  have hs := r.1
  have hs1 := r1.1
  have ha := r.2.2.2.2.2.2
  have hal := CA_lt ha
  have ha0 : a ≠ 0 := by omega
  have hR3 := r1.2.2.2.2.2.1
  have u0 := (CA_of hs1 ha).1
  have en := e_T_next r1 (by omega)
  have hne := nx_end r.2.1.2 j
  have c1 := k1 D rfl
  refine ⟨hSetI h1 a 0 (nI 1), ?_, Fr_trans f1 (Fr_set _ (Or.inr ⟨by omega, by omega⟩)), CHc_told c1⟩
  simp only [Option.isSome_some, if_true] at e1
  have h10 : ((1 : Int32) = 0) = False := by decide
  have hk60 : k ≤ 59 := by omega
  clear c1 k1 f1
  generalize hh : hSetI h1 a 0 (nI 1) = h2 at *
  generalize nx tx j = v at *
  simp (disch := first | assumption | omega) [lstp, lc_T_read_1, lb_T_read_1, lu_T_read_1, j_meth, j_out, j_rok, j_pad, lg_sl, s_seq_w, isN_inl, isN_inr, s_if, jb, x_c, x_iloc, x_aloc, x_lloc, x_bin, x_un, o_add, o_sub, o_mul, o_and, o_or, o_xor, o_shl, o_shr, o_ushr, o_max, o_min, o_i2b, o_i2c, o_i2l, o_l2i, x_fld, j_fget, x_idx, j_aget, x_len, j_alen, x_ofb, x_ite, xs_nil, xs_cons, x_callv, x_calls, s_callv, s_calls, j_recv, j_ret, j_retv, b_cmp, b_and, b_or, b_not, b_ofi, b_ite, b_true, s_skip, s_set, j_ty, j_lset, j_kill, s_inc, s_fput, j_fput, s_fop, s_aput, j_aput, j_nar, s_aop, s_ret, s_retv, s_go, s_pop, x_linc, x_finc, Value.category, if_icmp.holds, List.flatMap_cons, List.flatMap_nil, List.length_cons, List.length_append, List.length_nil, List.set_cons_succ, List.set_cons_zero, List.getElem?_cons_succ, List.getElem?_cons_zero, List.replicate, ite_and', ite_or', ite_int', nI_leI, nI_ltI, nI_eq, nI_add, nI_1, pk_mul, nI_clamp, n_in', nI_pos', nI_pos, n_m1e, n_01, n_10, sT_1, sR_1_0, sR_1_1, sR_1_2, sR_1_3, sR_1_4, sR_1_5, sR_1_6, sR_1_7, sR_1_8, sR_1_9, sT_2, sT_3, sT_4, sT_5, sT_6, sT_7, sT_8, sT_9, sT_10, sT_11, sT_12, sT_13, sT_14, sR_2_1, sR_2_2, sR_2_3, sR_2_4, sR_2_5, sR_2_6, sR_2_7, sR_2_8, sR_2_9, sR_2_10, sR_2_11, sR_2_12, sT_15, sT_16, sT_17, sT_18, sT_19, sT_20, sT_21, sT_22, sT_23, sR_15_1, sR_15_2, sR_15_3, sR_15_4, sR_15_5, sR_15_6, sR_15_7, sR_15_8, sT_24, sT_25, sT_26, sT_27, sT_28, sT_29, sR_24_1, sR_24_2, sR_24_3, sR_24_4, sR_24_5, sT_71, sT_72, sR_71_0, sR_71_1, sR_71_2, sR_71_3, sR_71_4, sT_73, sT_74, sT_75, sR_73_0, sR_73_1, sR_73_2, sR_73_3, sR_73_4, sR_73_5, sT_84, sT_85, sT_86, sT_87, sR_84_0, sR_84_1, sR_84_2, sR_84_3, sR_84_4, sR_84_5, sT_88, sT_89, sR_88_0, sT_90, sT_91, sR_90_0, hk60, e1, h10, en, hne, he, hR3, ha0, u0, n_e1, hh]
theorem rd_semi {tx : List Nat} {i a k j : Nat} {C D : CH} {h : jHp} (r : RT tx i a h) (hi : i ≤ 63) (hj : j ≤ 63) (hk : k < 30) (c : CHc C false a h) (hC : CHk C k) (hp : pLn tx i C = (some D, j)) (he : j < tx.length) : ∃ h', Fr (Wtc a) h h' ∧ CHc D false a h' ∧ RT tx (if tg tx j = some 59 then j + 1 else j) a h' ∧ lstp 1 2 lc_T_read_1 lb_T_read_1 lu_T_read_1 ([.ref 88, .ref a, .int (nI (k + 1))], h) = some (if tg tx j = some 59 then .inl ([.ref 88, .ref a, .int (nI (k + 1 + 1))], h') else .inr (.inr (some (.int (-1 - nI j))), ([.ref 88, .ref a, .int (nI (k + 1))], h'))) := by
  obtain ⟨h1, e1, r1, f1, k1⟩ := e_T_readLine r (by omega) c hC
  rw [hp] at e1 r1 k1
  have hs := r.1
  have hs1 := r1.1
  have ha := r.2.2.2.2.2.2
  have en := e_T_next r1 (by omega)
  have hne := nx_end r.2.1.2 j
  have c1 := k1 D rfl
  obtain ⟨h2, e2, r2, f2⟩ := e_T_pass r1 (by omega) (c := 59) (by decide)
  have hs2 := r2.1
  refine ⟨h2, Fr_trans f1 (Fr_mono f2 fun b j q => W882_tc q), CHc_882 ha c1 f2, r2, ?_⟩
  simp only [Option.isSome_some, if_true] at e1
  have h10 : ((1 : Int32) = 0) = False := by decide
  have hk60 : k ≤ 59 := by omega
  clear c1 k1 f1 f2
  generalize nx tx j = v at *
  by_cases z : tg tx j = some 59
  · rw [if_pos z] at e2
    rw [if_pos z]
    simp (disch := first | assumption | omega) [lstp, lc_T_read_1, lb_T_read_1, lu_T_read_1, j_meth, j_out, j_rok, j_pad, lg_sl, s_seq_w, isN_inl, isN_inr, s_if, jb, x_c, x_iloc, x_aloc, x_lloc, x_bin, x_un, o_add, o_sub, o_mul, o_and, o_or, o_xor, o_shl, o_shr, o_ushr, o_max, o_min, o_i2b, o_i2c, o_i2l, o_l2i, x_fld, j_fget, x_idx, j_aget, x_len, j_alen, x_ofb, x_ite, xs_nil, xs_cons, x_callv, x_calls, s_callv, s_calls, j_recv, j_ret, j_retv, b_cmp, b_and, b_or, b_not, b_ofi, b_ite, b_true, s_skip, s_set, j_ty, j_lset, j_kill, s_inc, s_fput, j_fput, s_fop, s_aput, j_aput, j_nar, s_aop, s_ret, s_retv, s_go, s_pop, x_linc, x_finc, Value.category, if_icmp.holds, List.flatMap_cons, List.flatMap_nil, List.length_cons, List.length_append, List.length_nil, List.set_cons_succ, List.set_cons_zero, List.getElem?_cons_succ, List.getElem?_cons_zero, List.replicate, ite_and', ite_or', ite_int', nI_leI, nI_ltI, nI_eq, nI_add, nI_1, pk_mul, nI_clamp, n_in', nI_pos', nI_pos, n_m1e, n_01, n_10, sT_1, sR_1_0, sR_1_1, sR_1_2, sR_1_3, sR_1_4, sR_1_5, sR_1_6, sR_1_7, sR_1_8, sR_1_9, sT_2, sT_3, sT_4, sT_5, sT_6, sT_7, sT_8, sT_9, sT_10, sT_11, sT_12, sT_13, sT_14, sR_2_1, sR_2_2, sR_2_3, sR_2_4, sR_2_5, sR_2_6, sR_2_7, sR_2_8, sR_2_9, sR_2_10, sR_2_11, sR_2_12, sT_15, sT_16, sT_17, sT_18, sT_19, sT_20, sT_21, sT_22, sT_23, sR_15_1, sR_15_2, sR_15_3, sR_15_4, sR_15_5, sR_15_6, sR_15_7, sR_15_8, sT_24, sT_25, sT_26, sT_27, sT_28, sT_29, sR_24_1, sR_24_2, sR_24_3, sR_24_4, sR_24_5, sT_71, sT_72, sR_71_0, sR_71_1, sR_71_2, sR_71_3, sR_71_4, sT_73, sT_74, sT_75, sR_73_0, sR_73_1, sR_73_2, sR_73_3, sR_73_4, sR_73_5, sT_84, sT_85, sT_86, sT_87, sR_84_0, sR_84_1, sR_84_2, sR_84_3, sR_84_4, sR_84_5, sT_88, sT_89, sR_88_0, sT_90, sT_91, sR_90_0, hk60, e1, h10, en, hne, he, e2]
  · rw [if_neg z] at e2 r2
    rw [if_neg z]
    have c2 := r2.2.2.2.1
    simp (disch := first | assumption | omega) [lstp, lc_T_read_1, lb_T_read_1, lu_T_read_1, j_meth, j_out, j_rok, j_pad, lg_sl, s_seq_w, isN_inl, isN_inr, s_if, jb, x_c, x_iloc, x_aloc, x_lloc, x_bin, x_un, o_add, o_sub, o_mul, o_and, o_or, o_xor, o_shl, o_shr, o_ushr, o_max, o_min, o_i2b, o_i2c, o_i2l, o_l2i, x_fld, j_fget, x_idx, j_aget, x_len, j_alen, x_ofb, x_ite, xs_nil, xs_cons, x_callv, x_calls, s_callv, s_calls, j_recv, j_ret, j_retv, b_cmp, b_and, b_or, b_not, b_ofi, b_ite, b_true, s_skip, s_set, j_ty, j_lset, j_kill, s_inc, s_fput, j_fput, s_fop, s_aput, j_aput, j_nar, s_aop, s_ret, s_retv, s_go, s_pop, x_linc, x_finc, Value.category, if_icmp.holds, List.flatMap_cons, List.flatMap_nil, List.length_cons, List.length_append, List.length_nil, List.set_cons_succ, List.set_cons_zero, List.getElem?_cons_succ, List.getElem?_cons_zero, List.replicate, ite_and', ite_or', ite_int', nI_leI, nI_ltI, nI_eq, nI_add, nI_1, pk_mul, nI_clamp, n_in', nI_pos', nI_pos, n_m1e, n_01, n_10, sT_1, sR_1_0, sR_1_1, sR_1_2, sR_1_3, sR_1_4, sR_1_5, sR_1_6, sR_1_7, sR_1_8, sR_1_9, sT_2, sT_3, sT_4, sT_5, sT_6, sT_7, sT_8, sT_9, sT_10, sT_11, sT_12, sT_13, sT_14, sR_2_1, sR_2_2, sR_2_3, sR_2_4, sR_2_5, sR_2_6, sR_2_7, sR_2_8, sR_2_9, sR_2_10, sR_2_11, sR_2_12, sT_15, sT_16, sT_17, sT_18, sT_19, sT_20, sT_21, sT_22, sT_23, sR_15_1, sR_15_2, sR_15_3, sR_15_4, sR_15_5, sR_15_6, sR_15_7, sR_15_8, sT_24, sT_25, sT_26, sT_27, sT_28, sT_29, sR_24_1, sR_24_2, sR_24_3, sR_24_4, sR_24_5, sT_71, sT_72, sR_71_0, sR_71_1, sR_71_2, sR_71_3, sR_71_4, sT_73, sT_74, sT_75, sR_73_0, sR_73_1, sR_73_2, sR_73_3, sR_73_4, sR_73_5, sT_84, sT_85, sT_86, sT_87, sR_84_0, sR_84_1, sR_84_2, sR_84_3, sR_84_4, sR_84_5, sT_88, sT_89, sR_88_0, sT_90, sT_91, sR_90_0, hk60, e1, h10, en, hne, he, e2, c2]
theorem rd_loop {tx : List Nat} {a : Nat} : ∀ n i C k (h : jHp), k + n = 21 → 3 * k ≤ i → i ≤ 60 → RT tx i a h → CHc C false a h → CHk C k → ∃ ans h' L, s_loop 1 2 lc_T_read_1 lb_T_read_1 lu_T_read_1 ([.ref 88, .ref a, .int (nI (k + 1))], h) = some (.inr (some (.int ans)), (L, h')) ∧ Fr (Wtc a) h h' ∧ (∀ q j, pAl tx n i C k = (some q, j) → ans = nI q.2 ∧ CHc q.1 true a h' ∧ CHk q.1 q.2 ∧ 0 < q.2 ∧ q.2 ≤ 21) ∧ ∀ j, pAl tx n i C k = (none, j) → ans = -1 - nI j ∧ j < 200 := by
  intro n
  induction n with
  | zero => intro i C k h h1 h2 h3; omega
  | succ n ih =>
    intro i C k h h1 h2 h3 r c hC
    cases hp : pLn tx i C with
    | mk o j =>
      cases o with
      | none =>
        obtain ⟨h', e, f⟩ := rd_fail r (by omega) (by omega) c hC hp
        have hK : pAl tx (n + 1) i C k = (none, j) := by simp only [pAl, hp]
        rw [hK]
        have hle := pLn_le tx i C
        rw [hp] at hle
        exact ⟨_, h', _, s_loop_inr e, f, fun q z hq => (by cases hq), fun z hz => (by cases hz; exact ⟨rfl, by simp only at hle; omega⟩)⟩
      | some D =>
        obtain ⟨hD, b1, b2⟩ := pLn_ok hC hp
        by_cases he : j < tx.length
        · obtain ⟨h', f, cD, rj, e⟩ := rd_semi r (by omega) b2 (by omega) c hC hp he
          by_cases z : tg tx j = some 59
          · rw [if_pos z] at e rj
            have hj60 := (tg_256 r.2.1.2 z).2.2
            obtain ⟨ans, h2, L, e2, f2, g1, g2⟩ := ih (j + 1) D (k + 1) h' (by omega) (by omega) (by omega) rj cD hD
            have hK : pAl tx (n + 1) i C k = pAl tx n (j + 1) D (k + 1) := by simp only [pAl, hp]; rw [if_pos z]
            rw [hK]
            exact ⟨ans, h2, L, s_loop_inl e e2, Fr_trans f f2, g1, g2⟩
          · rw [if_neg z] at e
            have hK : pAl tx (n + 1) i C k = (none, j) := by simp only [pAl, hp]; rw [if_neg z, if_pos he]
            rw [hK]
            exact ⟨_, h', _, s_loop_inr e, f, fun q z hq => (by cases hq), fun z hz => (by cases hz; exact ⟨rfl, by omega⟩)⟩
        · obtain ⟨h', e, f, cD⟩ := rd_end r (by omega) b2 (by omega) c hC hp he
          have hz : ¬ tg tx j = some 59 := fun q => he (tg_256 r.2.1.2 q).2.1
          have hK : pAl tx (n + 1) i C k = (some (D, k + 1), j) := by simp only [pAl, hp]; rw [if_neg hz, if_neg he]
          rw [hK]
          exact ⟨_, h', _, s_loop_inr e, f, fun q z hq => (by cases hq; exact ⟨rfl, cD, hD, by simp, by simp only; omega⟩), fun z hz => (by cases hz)⟩
theorem Shape_R {h : jHp} (hs : Shape h) {a i : Nat} (v : Nat) (hq : ∀ q ∈ R0, ¬ (q.1 = a ∧ q.2.1 = i)) : Shape (hSetR h a i v) := Shape.setR hs v hq
theorem R0_no {a i : Nat} (h : R0.all (fun q => !(q.1 == a && q.2.1 == i)) = true) : ∀ q ∈ R0, ¬ (q.1 = a ∧ q.2.1 = i) := fun q hq z => by
  have := List.all_eq_true.mp h q hq
  rw [z.1, z.2] at this
  simp at this
theorem Shape_88 {h : jHp} (hs : Shape h) (v : Nat) : Shape (hSetR h 88 3 v) := Shape.setR hs v (R0_no (by decide +kernel))
theorem CHk_C0 : CHk C0 0 := by
  refine ⟨by decide, fun m hm => (by cases hm), by decide, fun k hk => (by cases hk), by decide, fun k hk => (by cases hk), by decide, fun k hk => (by cases hk), by decide, fun k hk => (by cases hk)⟩
/-- read, from the Text's cells alone; the first step points it at the Choice -/
theorem e_T_read {tx : List Nat} {a : Nat} {h : jHp} (hs : Shape h) (ha : isCA a) (ct : CTx tx h) : ∃ ans h', f_T_read [.ref 88, .ref a] h = some (some (.int ans), h') ∧ Fr (Wtc a) (hSetR h 88 3 a) h' ∧ (∀ q j, pAl tx 21 0 C0 0 = (some q, j) → ans = nI q.2 ∧ CHc q.1 true a h' ∧ CHk q.1 q.2 ∧ 0 < q.2 ∧ q.2 ≤ 21) ∧ ∀ j, pAl tx 21 0 C0 0 = (none, j) → ans = -1 - nI j ∧ j < 200 := by
  have hal := CA_lt ha
  have ha0 : a ≠ 0 := by omega
  have hs0 := Shape_88 hs a
  have R0' : hR (hSetR h 88 3 a) 88 3 = a := by rw [hR_setR, if_pos ⟨rfl, rfl⟩]
  have ct0 : CTx tx (hSetR h 88 3 a) := ct
  generalize hh0 : hSetR h 88 3 a = h0 at *
  obtain ⟨h1, e1, f1, c1⟩ := e_Ch_reset hs0 ha
  have hs1 := Fr_shape hs0 f1
  have f2 : Fr W882 h1 (hSetI h1 88 2 (nI 0)) := Fr_set _ ⟨rfl, rfl⟩
  have r2 : RT tx 0 a (hSetI h1 88 2 (nI 0)) := by
    refine ⟨Fr_shape hs1 f2, ct.1, ?_, ?_, fun j hj => ?_, ?_, ha⟩
    · rw [hI_setI, if_neg (by omega), Fr_I f1 (by unfold Wca; omega)]; exact ct0.2.1
    · rw [hI_setI, if_pos ⟨rfl, rfl⟩]
    · rw [hI_setI, if_neg (by omega), Fr_I f1 (by unfold Wca; omega)]; exact ct0.2.2 j hj
    · rw [hR_setI, f1.1.2.1]; exact R0'
  have c2 := CHc_882 ha c1 f2
  obtain ⟨ans, h3, L, e3, f3, g1, g2⟩ := rd_loop 21 0 C0 0 (hSetI h1 88 2 (nI 0)) (by omega) (by omega) (by omega) r2 c2 CHk_C0
  refine ⟨ans, h3, ?_, Fr_trans (Fr_mono f1 fun b j q => Or.inr q) (Fr_trans (Fr_mono f2 fun b j q => W882_tc q) f3), g1, g2⟩
  have hs2 := r2.1
  have hs3 := Fr_shape hs2 f3
  clear g1 g2 r2 c2 c1 f1 f2 f3 ct ct0
  generalize hh2 : hSetI h1 88 2 (nI 0) = h2 at *
  have hh2' : hSetI h1 88 2 0 = h2 := by rw [← hh2, nI_0]
  have e3' : s_loop 1 2 lc_T_read_1 lb_T_read_1 lu_T_read_1 ([.ref 88, .ref a, .int (nI 1)], h2) = some (.inr (some (.int ans)), (L, h3)) := e3
  have u0 := (CA_of hs0 ha).1
  simp (disch := first | assumption | omega) [f_T_read, body_T_read, j_meth, j_out, j_rok, j_pad, lg_sl, s_seq_w, isN_inl, isN_inr, s_if, jb, x_c, x_iloc, x_aloc, x_lloc, x_bin, x_un, o_add, o_sub, o_mul, o_and, o_or, o_xor, o_shl, o_shr, o_ushr, o_max, o_min, o_i2b, o_i2c, o_i2l, o_l2i, x_fld, j_fget, x_idx, j_aget, x_len, j_alen, x_ofb, x_ite, xs_nil, xs_cons, x_callv, x_calls, s_callv, s_calls, j_recv, j_ret, j_retv, b_cmp, b_and, b_or, b_not, b_ofi, b_ite, b_true, s_skip, s_set, j_ty, j_lset, j_kill, s_inc, s_fput, j_fput, s_fop, s_aput, j_aput, j_nar, s_aop, s_ret, s_retv, s_go, s_pop, x_linc, x_finc, Value.category, if_icmp.holds, List.flatMap_cons, List.flatMap_nil, List.length_cons, List.length_append, List.length_nil, List.set_cons_succ, List.set_cons_zero, List.getElem?_cons_succ, List.getElem?_cons_zero, List.replicate, ite_and', ite_or', ite_int', nI_leI, nI_ltI, nI_eq, nI_add, nI_1, pk_mul, nI_clamp, n_in', nI_pos', nI_pos, n_m1e, n_01, n_10, sT_1, sR_1_0, sR_1_1, sR_1_2, sR_1_3, sR_1_4, sR_1_5, sR_1_6, sR_1_7, sR_1_8, sR_1_9, sT_2, sT_3, sT_4, sT_5, sT_6, sT_7, sT_8, sT_9, sT_10, sT_11, sT_12, sT_13, sT_14, sR_2_1, sR_2_2, sR_2_3, sR_2_4, sR_2_5, sR_2_6, sR_2_7, sR_2_8, sR_2_9, sR_2_10, sR_2_11, sR_2_12, sT_15, sT_16, sT_17, sT_18, sT_19, sT_20, sT_21, sT_22, sT_23, sR_15_1, sR_15_2, sR_15_3, sR_15_4, sR_15_5, sR_15_6, sR_15_7, sR_15_8, sT_24, sT_25, sT_26, sT_27, sT_28, sT_29, sR_24_1, sR_24_2, sR_24_3, sR_24_4, sR_24_5, sT_71, sT_72, sR_71_0, sR_71_1, sR_71_2, sR_71_3, sR_71_4, sT_73, sT_74, sT_75, sR_73_0, sR_73_1, sR_73_2, sR_73_3, sR_73_4, sR_73_5, sT_84, sT_85, sT_86, sT_87, sR_84_0, sR_84_1, sR_84_2, sR_84_3, sR_84_4, sR_84_5, sT_88, sT_89, sR_88_0, sT_90, sT_91, sR_90_0, hh0, R0', ha0, u0, e1, hh2, e3']
