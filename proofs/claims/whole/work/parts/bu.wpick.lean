/-! the Walk: the BONDS that it goes through -/
theorem fold_nfo {α : Type} (g : α → Nat) (d : α) (l : List α) (m : Nat) : nfo (fun k m => m ||| g (l.getD k d)) l.length m = l.foldl (fun m q => m ||| g q) m := by
  have key : ∀ n, n ≤ l.length → nfo (fun k m => m ||| g (l.getD k d)) n m = (l.take n).foldl (fun m q => m ||| g q) m := by
    intro n
    induction n with
    | zero => intro _; rfl
    | succ n ih =>
      intro hn
      simp only [nfo]
      rw [ih (by omega), List.take_succ, List.foldl_append]
      rw [List.getD_eq_getElem?_getD, List.getElem?_eq_getElem (by omega)]
      rfl
  rw [key _ (Nat.le_refl _), List.take_length]
theorem ofPr_lt {A : AS} (w : WF A) : ofPr A < 2 ^ aNb A := lt_of_bits fun i hi => by
  obtain ⟨c, -, q, hq, hb⟩ := (ofPr_bit A i).mp hi
  have := prM_lt w ((w.2.2.2.2.1.2.2.2 c).2.2.2 q hq)
  apply Classical.byContradiction
  intro z
  rw [Nat.testBit_lt_two_pow (Nat.lt_of_lt_of_le this (Nat.pow_le_pow_right (by decide) (by omega)))] at hb
  cases hb
theorem e_W_pick2 {A : AS} {h : jHp} (x : MK A h) {c m : Nat} (hc : c < aNc A) : s_loop 3 4 lc_W_pickLive_2 lb_W_pickLive_2 lu_W_pickLive_2 ([.ref 73, .int (nI m), .int (nI c), .int (nI 0), .null], h) = some (.inl 0, ([.ref 73, .int (nI ((aPl A c).foldl (fun m q => m ||| prM q) m)), .int (nI c), .int (nI (aPl A c).length), .null], h)) := by
  have hs := x.1.1
  have w := x.1.2.1
  have cc := x.2
  have hc2 := w.2.2.2.2.1.1
  obtain ⟨p1, p2⟩ := cc.2.2 c (by omega)
  have hl8 := (w.2.2.2.2.1.2.2.2 c).2.1
  have hL := loop_n (lb := 3) (lc := 4) (c := lc_W_pickLive_2) (b := lb_W_pickLive_2) (u := lu_W_pickLive_2) (aPl A c).length (fun i (m : Nat) => (([.ref 73, .int (nI m), .int (nI c), .int (nI i), .null], h) : jS)) (fun k m => m ||| prM ((aPl A c).getD k (none, none))) (fun _ _ => True)
    (fun i m hi _ => by
      have e1 := (p2 i hi).1
      refine ⟨trivial, ?_⟩
      generalize prM ((aPl A c).getD i (none, none)) = Q at *
      generalize (aPl A c).length = L at *
      have e8 : c * 8 + i = 8 * c + i := by omega
      simp (disch := first | assumption | omega) [lstp, lc_W_pickLive_2, lb_W_pickLive_2, lu_W_pickLive_2, j_meth, j_out, j_rok, j_pad, lg_sl, s_seq_w, isN_inl, isN_inr, s_if, jb, x_c, x_iloc, x_aloc, x_lloc, x_bin, x_un, o_add, o_sub, o_mul, o_and, o_or, o_xor, o_shl, o_shr, o_ushr, o_max, o_min, o_i2b, o_i2c, o_i2l, o_l2i, x_fld, j_fget, x_idx, j_aget, x_len, j_alen, x_ofb, x_ite, xs_nil, xs_cons, x_callv, x_calls, s_callv, s_calls, j_recv, j_ret, j_retv, b_cmp, b_and, b_or, b_not, b_ofi, b_ite, b_true, s_skip, s_set, j_ty, j_lset, j_kill, s_inc, s_fput, j_fput, s_fop, s_aput, j_aput, j_nar, s_aop, s_ret, s_retv, s_go, s_pop, x_linc, x_finc, Value.category, if_icmp.holds, List.flatMap_cons, List.flatMap_nil, List.length_cons, List.length_append, List.length_nil, List.set_cons_succ, List.set_cons_zero, List.getElem?_cons_succ, List.getElem?_cons_zero, List.replicate, ite_and', ite_or', ite_int', nI_leI, nI_ltI, nI_eq, nI_add, nI_1, pk_mul, nI_clamp, n_in', nI_pos', nI_pos, n_m1e, n_01, n_10, sT_1, sR_1_0, sR_1_1, sR_1_2, sR_1_3, sR_1_4, sR_1_5, sR_1_6, sR_1_7, sR_1_8, sR_1_9, sT_2, sT_3, sT_4, sT_5, sT_6, sT_7, sT_8, sT_9, sT_10, sT_11, sT_12, sT_13, sT_14, sR_2_1, sR_2_2, sR_2_3, sR_2_4, sR_2_5, sR_2_6, sR_2_7, sR_2_8, sR_2_9, sR_2_10, sR_2_11, sR_2_12, sT_15, sT_16, sT_17, sT_18, sT_19, sT_20, sT_21, sT_22, sT_23, sR_15_1, sR_15_2, sR_15_3, sR_15_4, sR_15_5, sR_15_6, sR_15_7, sR_15_8, sT_24, sT_25, sT_26, sT_27, sT_28, sT_29, sR_24_1, sR_24_2, sR_24_3, sR_24_4, sR_24_5, sT_71, sT_72, sR_71_0, sR_71_1, sR_71_2, sR_71_3, sR_71_4, sT_73, sT_74, sT_75, sR_73_0, sR_73_1, sR_73_2, sR_73_3, sR_73_4, sR_73_5, sT_84, sT_85, sT_86, sT_87, sR_84_0, sR_84_1, sR_84_2, sR_84_3, sR_84_4, sR_84_5, sT_88, sT_89, sR_88_0, sT_90, sT_91, sR_90_0, p1, hi, e8, e1, n_or])
    (fun m _ => by
      generalize (aPl A c).length = L at *
      simp (disch := first | assumption | omega) [lstp, lc_W_pickLive_2, lb_W_pickLive_2, lu_W_pickLive_2, j_meth, j_out, j_rok, j_pad, lg_sl, s_seq_w, isN_inl, isN_inr, s_if, jb, x_c, x_iloc, x_aloc, x_lloc, x_bin, x_un, o_add, o_sub, o_mul, o_and, o_or, o_xor, o_shl, o_shr, o_ushr, o_max, o_min, o_i2b, o_i2c, o_i2l, o_l2i, x_fld, j_fget, x_idx, j_aget, x_len, j_alen, x_ofb, x_ite, xs_nil, xs_cons, x_callv, x_calls, s_callv, s_calls, j_recv, j_ret, j_retv, b_cmp, b_and, b_or, b_not, b_ofi, b_ite, b_true, s_skip, s_set, j_ty, j_lset, j_kill, s_inc, s_fput, j_fput, s_fop, s_aput, j_aput, j_nar, s_aop, s_ret, s_retv, s_go, s_pop, x_linc, x_finc, Value.category, if_icmp.holds, List.flatMap_cons, List.flatMap_nil, List.length_cons, List.length_append, List.length_nil, List.set_cons_succ, List.set_cons_zero, List.getElem?_cons_succ, List.getElem?_cons_zero, List.replicate, ite_and', ite_or', ite_int', nI_leI, nI_ltI, nI_eq, nI_add, nI_1, pk_mul, nI_clamp, n_in', nI_pos', nI_pos, n_m1e, n_01, n_10, sT_1, sR_1_0, sR_1_1, sR_1_2, sR_1_3, sR_1_4, sR_1_5, sR_1_6, sR_1_7, sR_1_8, sR_1_9, sT_2, sT_3, sT_4, sT_5, sT_6, sT_7, sT_8, sT_9, sT_10, sT_11, sT_12, sT_13, sT_14, sR_2_1, sR_2_2, sR_2_3, sR_2_4, sR_2_5, sR_2_6, sR_2_7, sR_2_8, sR_2_9, sR_2_10, sR_2_11, sR_2_12, sT_15, sT_16, sT_17, sT_18, sT_19, sT_20, sT_21, sT_22, sT_23, sR_15_1, sR_15_2, sR_15_3, sR_15_4, sR_15_5, sR_15_6, sR_15_7, sR_15_8, sT_24, sT_25, sT_26, sT_27, sT_28, sT_29, sR_24_1, sR_24_2, sR_24_3, sR_24_4, sR_24_5, sT_71, sT_72, sR_71_0, sR_71_1, sR_71_2, sR_71_3, sR_71_4, sT_73, sT_74, sT_75, sR_73_0, sR_73_1, sR_73_2, sR_73_3, sR_73_4, sR_73_5, sT_84, sT_85, sT_86, sT_87, sR_84_0, sR_84_1, sR_84_2, sR_84_3, sR_84_4, sR_84_5, sT_88, sT_89, sR_88_0, sT_90, sT_91, sR_90_0, p1]) m trivial
  rw [fold_nfo] at hL
  exact hL
theorem e_W_pick1 {A : AS} {h : jHp} (x : MK A h) : ∃ v3, s_loop 1 2 lc_W_pickLive_1 lb_W_pickLive_1 lu_W_pickLive_1 ([.ref 73, .int (nI 0), .int (nI 0), .null, .null], h) = some (.inl 0, ([.ref 73, .int (nI (ofPr A)), .int (nI (aNc A)), v3, .null], h)) := by
  have hs := x.1.1
  have w := x.1.2.1
  have cc := x.2
  have hc2 := w.2.2.2.2.1.1
  have c0 := cc.1
  have hL := loop_wp (lb := 1) (lc := 2) (c := lc_W_pickLive_1) (b := lb_W_pickLive_1) (u := lu_W_pickLive_1) (aNc A)
    (fun i st => ∃ v3, st = ([.ref 73, .int (nI (nfo (fun c m => (aPl A c).foldl (fun m q => m ||| prM q) m) i 0)), .int (nI i), v3, .null], h))
    (fun r => ∃ v3, r = (.inl 0, ([.ref 73, .int (nI (ofPr A)), .int (nI (aNc A)), v3, .null], h)))
    ?_ ?_ _ ⟨.null, rfl⟩
  · obtain ⟨r, e, v3, rfl⟩ := hL
    exact ⟨v3, e⟩
  · rintro i st hi ⟨v3, rfl⟩
    left
    have e2 := e_W_pick2 x (m := nfo (fun c m => (aPl A c).foldl (fun m q => m ||| prM q) m) i 0) hi
    refine ⟨_, ?_, .int (nI (aPl A i).length), rfl⟩
    · simp only [nfo]
      generalize (aPl A i).length = L at *
      generalize nfo (fun c m => (aPl A c).foldl (fun m q => m ||| prM q) m) i 0 = M at *
      generalize (aPl A i).foldl (fun m q => m ||| prM q) M = M' at *
      simp only [nI_0] at e2
      simp (disch := first | assumption | omega) [lstp, lc_W_pickLive_1, lb_W_pickLive_1, lu_W_pickLive_1, j_meth, j_out, j_rok, j_pad, lg_sl, s_seq_w, isN_inl, isN_inr, s_if, jb, x_c, x_iloc, x_aloc, x_lloc, x_bin, x_un, o_add, o_sub, o_mul, o_and, o_or, o_xor, o_shl, o_shr, o_ushr, o_max, o_min, o_i2b, o_i2c, o_i2l, o_l2i, x_fld, j_fget, x_idx, j_aget, x_len, j_alen, x_ofb, x_ite, xs_nil, xs_cons, x_callv, x_calls, s_callv, s_calls, j_recv, j_ret, j_retv, b_cmp, b_and, b_or, b_not, b_ofi, b_ite, b_true, s_skip, s_set, j_ty, j_lset, j_kill, s_inc, s_fput, j_fput, s_fop, s_aput, j_aput, j_nar, s_aop, s_ret, s_retv, s_go, s_pop, x_linc, x_finc, Value.category, if_icmp.holds, List.flatMap_cons, List.flatMap_nil, List.length_cons, List.length_append, List.length_nil, List.set_cons_succ, List.set_cons_zero, List.getElem?_cons_succ, List.getElem?_cons_zero, List.replicate, ite_and', ite_or', ite_int', nI_leI, nI_ltI, nI_eq, nI_add, nI_1, pk_mul, nI_clamp, n_in', nI_pos', nI_pos, n_m1e, n_01, n_10, sT_1, sR_1_0, sR_1_1, sR_1_2, sR_1_3, sR_1_4, sR_1_5, sR_1_6, sR_1_7, sR_1_8, sR_1_9, sT_2, sT_3, sT_4, sT_5, sT_6, sT_7, sT_8, sT_9, sT_10, sT_11, sT_12, sT_13, sT_14, sR_2_1, sR_2_2, sR_2_3, sR_2_4, sR_2_5, sR_2_6, sR_2_7, sR_2_8, sR_2_9, sR_2_10, sR_2_11, sR_2_12, sT_15, sT_16, sT_17, sT_18, sT_19, sT_20, sT_21, sT_22, sT_23, sR_15_1, sR_15_2, sR_15_3, sR_15_4, sR_15_5, sR_15_6, sR_15_7, sR_15_8, sT_24, sT_25, sT_26, sT_27, sT_28, sT_29, sR_24_1, sR_24_2, sR_24_3, sR_24_4, sR_24_5, sT_71, sT_72, sR_71_0, sR_71_1, sR_71_2, sR_71_3, sR_71_4, sT_73, sT_74, sT_75, sR_73_0, sR_73_1, sR_73_2, sR_73_3, sR_73_4, sR_73_5, sT_84, sT_85, sT_86, sT_87, sR_84_0, sR_84_1, sR_84_2, sR_84_3, sR_84_4, sR_84_5, sT_88, sT_89, sR_88_0, sT_90, sT_91, sR_90_0, c0, hi, nI_0, e2]
  · rintro st ⟨v3, rfl⟩
    refine ⟨_, ?_, v3, rfl⟩
    unfold ofPr
    generalize nfo (fun c m => (aPl A c).foldl (fun m q => m ||| prM q) m) (aNc A) 0 = M at *
    simp (disch := first | assumption | omega) [lstp, lc_W_pickLive_1, lb_W_pickLive_1, lu_W_pickLive_1, j_meth, j_out, j_rok, j_pad, lg_sl, s_seq_w, isN_inl, isN_inr, s_if, jb, x_c, x_iloc, x_aloc, x_lloc, x_bin, x_un, o_add, o_sub, o_mul, o_and, o_or, o_xor, o_shl, o_shr, o_ushr, o_max, o_min, o_i2b, o_i2c, o_i2l, o_l2i, x_fld, j_fget, x_idx, j_aget, x_len, j_alen, x_ofb, x_ite, xs_nil, xs_cons, x_callv, x_calls, s_callv, s_calls, j_recv, j_ret, j_retv, b_cmp, b_and, b_or, b_not, b_ofi, b_ite, b_true, s_skip, s_set, j_ty, j_lset, j_kill, s_inc, s_fput, j_fput, s_fop, s_aput, j_aput, j_nar, s_aop, s_ret, s_retv, s_go, s_pop, x_linc, x_finc, Value.category, if_icmp.holds, List.flatMap_cons, List.flatMap_nil, List.length_cons, List.length_append, List.length_nil, List.set_cons_succ, List.set_cons_zero, List.getElem?_cons_succ, List.getElem?_cons_zero, List.replicate, ite_and', ite_or', ite_int', nI_leI, nI_ltI, nI_eq, nI_add, nI_1, pk_mul, nI_clamp, n_in', nI_pos', nI_pos, n_m1e, n_01, n_10, sT_1, sR_1_0, sR_1_1, sR_1_2, sR_1_3, sR_1_4, sR_1_5, sR_1_6, sR_1_7, sR_1_8, sR_1_9, sT_2, sT_3, sT_4, sT_5, sT_6, sT_7, sT_8, sT_9, sT_10, sT_11, sT_12, sT_13, sT_14, sR_2_1, sR_2_2, sR_2_3, sR_2_4, sR_2_5, sR_2_6, sR_2_7, sR_2_8, sR_2_9, sR_2_10, sR_2_11, sR_2_12, sT_15, sT_16, sT_17, sT_18, sT_19, sT_20, sT_21, sT_22, sT_23, sR_15_1, sR_15_2, sR_15_3, sR_15_4, sR_15_5, sR_15_6, sR_15_7, sR_15_8, sT_24, sT_25, sT_26, sT_27, sT_28, sT_29, sR_24_1, sR_24_2, sR_24_3, sR_24_4, sR_24_5, sT_71, sT_72, sR_71_0, sR_71_1, sR_71_2, sR_71_3, sR_71_4, sT_73, sT_74, sT_75, sR_73_0, sR_73_1, sR_73_2, sR_73_3, sR_73_4, sR_73_5, sT_84, sT_85, sT_86, sT_87, sR_84_0, sR_84_1, sR_84_2, sR_84_3, sR_84_4, sR_84_5, sT_88, sT_89, sR_88_0, sT_90, sT_91, sR_90_0, c0]
def wRow (h : jHp) (l : List Nat) : Prop := ∀ i, i < l.length → hI h 74 i = nI (l.getD i 0)
/-- what pickLive leaves -/
def WLv (A : AS) (h : jHp) : Prop := hI h 73 6 = nI (lvL A (aNb A)).length ∧ (∀ i, i < (lvL A (aNb A)).length → hI h 74 i = nI ((lvL A (aNb A)).getD i 0)) ∧ ∀ b, b ∈ lvL A (aNb A) → hI h 75 b = nI (chg A b)
/-- those from b on, the highest first -/
def lvF (A : AS) : Nat → Nat → List Nat
  | 0, _ => []
  | k + 1, n => lvF A k n ++ if lvP A (n - (k + 1)) then [n - (k + 1)] else []
theorem lvF_len (A : AS) (n : Nat) : ∀ k, (lvF A k n).length ≤ k := by
  intro k
  induction k with
  | zero => simp [lvF]
  | succ k ih =>
    simp only [lvF, List.length_append]
    split
    · simp; omega
    · simp; omega
theorem lvF_all (A : AS) (n : Nat) : ∀ k, k ≤ n → lvF A k n ++ lvL A (n - k) = lvL A n := by
  intro k
  induction k with
  | zero => intro _; simp [lvF]
  | succ k ih =>
    intro hk
    rw [← ih (by omega)]
    simp only [lvF]
    rw [List.append_assoc]
    congr 1
    obtain ⟨m, hm⟩ : ∃ m, n - k = m + 1 := ⟨n - (k + 1), by omega⟩
    rw [hm, show n - (k + 1) = m by omega]
    simp only [lvL]
    split <;> rfl
theorem lvF_mem (A : AS) (n c : Nat) : ∀ k, k ≤ n → c ∈ lvF A k n → n - k ≤ c := by
  intro k
  induction k with
  | zero => intro _ h; simp [lvF] at h
  | succ k ih =>
    intro hk h
    simp only [lvF, List.mem_append] at h
    rcases h with q | q
    · have := ih (by omega) q
      omega
    · split at q
      · simp at q; omega
      · cases q
def Wpk (a j : Nat) : Prop := (a = 73 ∧ j = 6) ∨ a = 74 ∨ a = 75
theorem e_W_pick3 {A : AS} {h : jHp} {v3 : Value} (x : MK A h) (h0 : hI h 73 6 = 0) : ∃ h' u3 u4, s_loop 5 6 lc_W_pickLive_3 lb_W_pickLive_3 lu_W_pickLive_3 ([.ref 73, .int (nI (ofPr A)), .int (dn (aNb A)), v3, .null], h) = some (.inl 0, ([.ref 73, .int (nI (ofPr A)), .int (-1), u3, u4], h')) ∧ Fr Wpk h h' ∧ WLv A h' := by
  have w := x.1.2.1
  have h20 := w.2.2.1.1
  have hop := ofPr_lt w
  have hop' : ofPr A < 2 ^ 32 := Nat.lt_of_lt_of_le hop (Nat.pow_le_pow_right (by decide) (by omega))
  have hL := loop_wp (lb := 5) (lc := 6) (c := lc_W_pickLive_3) (b := lb_W_pickLive_3) (u := lu_W_pickLive_3) (aNb A)
    (fun i st => ∃ h' v3 v4, st = ([.ref 73, .int (nI (ofPr A)), .int (dn (aNb A - i)), v3, v4], h') ∧ Fr Wpk h h' ∧ hI h' 73 6 = nI (lvF A i (aNb A)).length ∧ (∀ j, j < (lvF A i (aNb A)).length → hI h' 74 j = nI ((lvF A i (aNb A)).getD j 0)) ∧ ∀ b, b ∈ lvF A i (aNb A) → hI h' 75 b = nI (chg A b))
    (fun r => ∃ h' v3 v4, r = (.inl 0, ([.ref 73, .int (nI (ofPr A)), .int (-1), v3, v4], h')) ∧ Fr Wpk h h' ∧ WLv A h')
    ?_ ?_ _ ⟨h, v3, .null, rfl, Fr_refl _ _, by rw [h0]; rfl, fun j hj => by simp [lvF] at hj, fun b hb => by simp [lvF] at hb⟩
  · obtain ⟨r, e, h', u3, u4, rfl, f, c⟩ := hL
    exact ⟨h', u3, u4, e, f, c⟩
  · rintro i st hi ⟨h1, u3, u4, rfl, f1, c6, c74, c75⟩
    left
    have hW : ∀ a j, Wpk a j → ¬ cC a j := fun a j q => by
      rcases q with ⟨q, -⟩ | q | q <;> subst q <;> unfold cC isCA <;> rintro (z | ⟨c, q1, q2, q3⟩ | z) <;> omega
    have x1 := MK_fr x f1 hW
    have hs1 := x1.1.1
    obtain ⟨-, -, cb, cp⟩ := x1.1
    obtain ⟨b, hbe⟩ : ∃ b, aNb A - i = b + 1 := ⟨aNb A - i - 1, by omega⟩
    have hb : b < aNb A := by omega
    rw [hbe, dn_s, show aNb A - (i + 1) = b by omega]
    obtain ⟨e3, -⟩ := cb.2.1 b hb
    have hpe := (w.2.2.1.2.1 b hb).1
    have hp7 := w.1.1
    have es := e_P_isSingle hs1 w cp (nI (aPe A b))
    rw [nI_clamp (by omega), n_in (by omega)] at es
    have c22 := cp.2.2.2.2.1 b (by omega)
    rw [if_pos hb] at c22
    have c21 := (cp.2.2.2.1 (aPe A b) (by omega)).2.2.1
    have c23 := cp.2.2.2.2.2 b
    have hb0 : (0 : Int32) ≤ nI b := nI_pos' (by omega)
    have hdn : nI b + -1 = dn b := rfl
    have hlen := lvF_len A (aNb A) i
    have hlv : lvF A (i + 1) (aNb A) = lvF A i (aNb A) ++ if lvP A b then [b] else [] := by
      simp only [lvF]
      rw [show aNb A - (i + 1) = b by omega]
    have h10 : ((1 : Int32) = 0) = False := by decide
    have hbit := n_bit hop' (k := b) (by omega)
    have hnotin : b ∉ lvF A i (aNb A) := fun q => by
      have := lvF_mem A (aNb A) b i (by omega) q
      omega
    rw [hlv]
    generalize hl : lvF A i (aNb A) = l at *
    by_cases hp : lvP A b = true
    · rw [if_pos hp, List.length_append]
      have hll : l.length < 20 := by omega
      have hres : lstp 5 6 lc_W_pickLive_3 lb_W_pickLive_3 lu_W_pickLive_3 ([.ref 73, .int (nI (ofPr A)), .int (nI b), u3, u4], h1) = some (.inl ([.ref 73, .int (nI (ofPr A)), .int (dn b), .int (nI (aPe A b)), .int (if (sCpl A (aPe A b)).isNone then 1 else 0)], hSetI (hSetI (hSetI h1 74 l.length (nI b)) 73 6 (nI (l.length + 1))) 75 b (nI (chg A b)))) := by
        clear f1 x1 c74 c75 cp cb
        unfold lvP at hp
        unfold chg
        generalize l.length = L at *
        generalize aPe A b = p at *
        cases hc : sCpl A p with
        | none =>
          rw [hc] at hp es
          simp only [Option.isNone_none, if_true] at hp
          obtain ⟨k, hk⟩ := Option.isSome_iff_exists.mp hp
          rw [hk, oI_s] at c22
          have k5 : k < 5 := by have := (sPlc_in w hk); have := sPlc_lt w hk; omega
          have hne : (nI k = -1) = False := n_m1e (by omega)
          have e23 := c23 k hb hk
          rw [hk]
          simp only [Option.isNone_none, if_true, Option.getD_some]
          generalize lsM A (aLl A p) = L1 at *
          generalize lsM A ((aLl A p).take k) = L2 at *
          generalize dn b = db at *
          simp (disch := first | assumption | omega) [lstp, lc_W_pickLive_3, lb_W_pickLive_3, lu_W_pickLive_3, j_meth, j_out, j_rok, j_pad, lg_sl, s_seq_w, isN_inl, isN_inr, s_if, jb, x_c, x_iloc, x_aloc, x_lloc, x_bin, x_un, o_add, o_sub, o_mul, o_and, o_or, o_xor, o_shl, o_shr, o_ushr, o_max, o_min, o_i2b, o_i2c, o_i2l, o_l2i, x_fld, j_fget, x_idx, j_aget, x_len, j_alen, x_ofb, x_ite, xs_nil, xs_cons, x_callv, x_calls, s_callv, s_calls, j_recv, j_ret, j_retv, b_cmp, b_and, b_or, b_not, b_ofi, b_ite, b_true, s_skip, s_set, j_ty, j_lset, j_kill, s_inc, s_fput, j_fput, s_fop, s_aput, j_aput, j_nar, s_aop, s_ret, s_retv, s_go, s_pop, x_linc, x_finc, Value.category, if_icmp.holds, List.flatMap_cons, List.flatMap_nil, List.length_cons, List.length_append, List.length_nil, List.set_cons_succ, List.set_cons_zero, List.getElem?_cons_succ, List.getElem?_cons_zero, List.replicate, ite_and', ite_or', ite_int', nI_leI, nI_ltI, nI_eq, nI_add, nI_1, pk_mul, nI_clamp, n_in', nI_pos', nI_pos, n_m1e, n_01, n_10, sT_1, sR_1_0, sR_1_1, sR_1_2, sR_1_3, sR_1_4, sR_1_5, sR_1_6, sR_1_7, sR_1_8, sR_1_9, sT_2, sT_3, sT_4, sT_5, sT_6, sT_7, sT_8, sT_9, sT_10, sT_11, sT_12, sT_13, sT_14, sR_2_1, sR_2_2, sR_2_3, sR_2_4, sR_2_5, sR_2_6, sR_2_7, sR_2_8, sR_2_9, sR_2_10, sR_2_11, sR_2_12, sT_15, sT_16, sT_17, sT_18, sT_19, sT_20, sT_21, sT_22, sT_23, sR_15_1, sR_15_2, sR_15_3, sR_15_4, sR_15_5, sR_15_6, sR_15_7, sR_15_8, sT_24, sT_25, sT_26, sT_27, sT_28, sT_29, sR_24_1, sR_24_2, sR_24_3, sR_24_4, sR_24_5, sT_71, sT_72, sR_71_0, sR_71_1, sR_71_2, sR_71_3, sR_71_4, sT_73, sT_74, sT_75, sR_73_0, sR_73_1, sR_73_2, sR_73_3, sR_73_4, sR_73_5, sT_84, sT_85, sT_86, sT_87, sR_84_0, sR_84_1, sR_84_2, sR_84_3, sR_84_4, sR_84_5, sT_88, sT_89, sR_88_0, sT_90, sT_91, sR_90_0, hb0, e3, es, hpe, h10, c22, hne, c6, c21, e23, n_xor, hI_setI, hI_setJ, hI_setR, hJ_setI, hJ_setJ, hJ_setR, hR_setI, hR_setJ, hR_setR, hT_setI, hT_setJ, hT_setR, hN_setI, hN_setJ, hN_setR, hS_setI, hS_setJ, hS_setR, hdn]
        | some d =>
          rw [hc] at hp es
          simp only [Option.isNone_some, Bool.false_eq_true, if_false] at hp
          rw [hp] at hbit
          generalize dn b = db at *
          simp (disch := first | assumption | omega) [lstp, lc_W_pickLive_3, lb_W_pickLive_3, lu_W_pickLive_3, j_meth, j_out, j_rok, j_pad, lg_sl, s_seq_w, isN_inl, isN_inr, s_if, jb, x_c, x_iloc, x_aloc, x_lloc, x_bin, x_un, o_add, o_sub, o_mul, o_and, o_or, o_xor, o_shl, o_shr, o_ushr, o_max, o_min, o_i2b, o_i2c, o_i2l, o_l2i, x_fld, j_fget, x_idx, j_aget, x_len, j_alen, x_ofb, x_ite, xs_nil, xs_cons, x_callv, x_calls, s_callv, s_calls, j_recv, j_ret, j_retv, b_cmp, b_and, b_or, b_not, b_ofi, b_ite, b_true, s_skip, s_set, j_ty, j_lset, j_kill, s_inc, s_fput, j_fput, s_fop, s_aput, j_aput, j_nar, s_aop, s_ret, s_retv, s_go, s_pop, x_linc, x_finc, Value.category, if_icmp.holds, List.flatMap_cons, List.flatMap_nil, List.length_cons, List.length_append, List.length_nil, List.set_cons_succ, List.set_cons_zero, List.getElem?_cons_succ, List.getElem?_cons_zero, List.replicate, ite_and', ite_or', ite_int', nI_leI, nI_ltI, nI_eq, nI_add, nI_1, pk_mul, nI_clamp, n_in', nI_pos', nI_pos, n_m1e, n_01, n_10, sT_1, sR_1_0, sR_1_1, sR_1_2, sR_1_3, sR_1_4, sR_1_5, sR_1_6, sR_1_7, sR_1_8, sR_1_9, sT_2, sT_3, sT_4, sT_5, sT_6, sT_7, sT_8, sT_9, sT_10, sT_11, sT_12, sT_13, sT_14, sR_2_1, sR_2_2, sR_2_3, sR_2_4, sR_2_5, sR_2_6, sR_2_7, sR_2_8, sR_2_9, sR_2_10, sR_2_11, sR_2_12, sT_15, sT_16, sT_17, sT_18, sT_19, sT_20, sT_21, sT_22, sT_23, sR_15_1, sR_15_2, sR_15_3, sR_15_4, sR_15_5, sR_15_6, sR_15_7, sR_15_8, sT_24, sT_25, sT_26, sT_27, sT_28, sT_29, sR_24_1, sR_24_2, sR_24_3, sR_24_4, sR_24_5, sT_71, sT_72, sR_71_0, sR_71_1, sR_71_2, sR_71_3, sR_71_4, sT_73, sT_74, sT_75, sR_73_0, sR_73_1, sR_73_2, sR_73_3, sR_73_4, sR_73_5, sT_84, sT_85, sT_86, sT_87, sR_84_0, sR_84_1, sR_84_2, sR_84_3, sR_84_4, sR_84_5, sT_88, sT_89, sR_88_0, sT_90, sT_91, sR_90_0, hb0, e3, es, hpe, h10, hbit, c6, hI_setI, hI_setJ, hI_setR, hJ_setI, hJ_setJ, hJ_setR, hR_setI, hR_setJ, hR_setR, hT_setI, hT_setJ, hT_setR, hN_setI, hN_setJ, hN_setR, hS_setI, hS_setJ, hS_setR, hdn]
      refine ⟨_, hres, _, _, _, rfl, Fr_trans f1 (Fr_trans (Fr_trans (Fr_set _ (Or.inr (Or.inl rfl))) (Fr_set _ (Or.inl ⟨rfl, rfl⟩))) (Fr_set _ (Or.inr (Or.inr rfl)))), by simp [hI_setI], fun j hj => ?_, fun c hc => ?_⟩
      · rw [hI_setI, if_neg (by omega), hI_setI, if_neg (by omega), hI_setI]
        by_cases e : j = l.length
        · subst e
          rw [if_pos ⟨rfl, rfl⟩]
          simp
        · rw [if_neg (by omega)]
          simp at hj
          rw [c74 j (by omega)]
          simp [List.getElem?_append_left (show j < l.length by omega)]
      · rw [hI_setI]
        by_cases e : c = b
        · subst e; rw [if_pos ⟨rfl, rfl⟩]
        · rw [if_neg (by omega), hI_setI, if_neg (by omega), hI_setI, if_neg (by omega)]
          rw [List.mem_append] at hc
          rcases hc with q | q
          · exact c75 c q
          · simp at q; exact absurd q e
    · rw [if_neg hp, List.append_nil]
      have hres : lstp 5 6 lc_W_pickLive_3 lb_W_pickLive_3 lu_W_pickLive_3 ([.ref 73, .int (nI (ofPr A)), .int (nI b), u3, u4], h1) = some (.inl ([.ref 73, .int (nI (ofPr A)), .int (dn b), .int (nI (aPe A b)), .int (if (sCpl A (aPe A b)).isNone then 1 else 0)], h1)) := by
        clear f1 x1 c74 c75 cp cb
        unfold lvP at hp
        generalize l.length = L at *
        generalize aPe A b = p at *
        cases hc : sCpl A p with
        | none =>
          rw [hc] at hp es
          simp only [Option.isNone_none, if_true] at hp
          have hk : sPlc A b = none := by
            cases z : sPlc A b with
            | none => rfl
            | some k => rw [z] at hp; exact absurd rfl hp
          rw [hk, oI_n] at c22
          generalize dn b = db at *
          simp (disch := first | assumption | omega) [lstp, lc_W_pickLive_3, lb_W_pickLive_3, lu_W_pickLive_3, j_meth, j_out, j_rok, j_pad, lg_sl, s_seq_w, isN_inl, isN_inr, s_if, jb, x_c, x_iloc, x_aloc, x_lloc, x_bin, x_un, o_add, o_sub, o_mul, o_and, o_or, o_xor, o_shl, o_shr, o_ushr, o_max, o_min, o_i2b, o_i2c, o_i2l, o_l2i, x_fld, j_fget, x_idx, j_aget, x_len, j_alen, x_ofb, x_ite, xs_nil, xs_cons, x_callv, x_calls, s_callv, s_calls, j_recv, j_ret, j_retv, b_cmp, b_and, b_or, b_not, b_ofi, b_ite, b_true, s_skip, s_set, j_ty, j_lset, j_kill, s_inc, s_fput, j_fput, s_fop, s_aput, j_aput, j_nar, s_aop, s_ret, s_retv, s_go, s_pop, x_linc, x_finc, Value.category, if_icmp.holds, List.flatMap_cons, List.flatMap_nil, List.length_cons, List.length_append, List.length_nil, List.set_cons_succ, List.set_cons_zero, List.getElem?_cons_succ, List.getElem?_cons_zero, List.replicate, ite_and', ite_or', ite_int', nI_leI, nI_ltI, nI_eq, nI_add, nI_1, pk_mul, nI_clamp, n_in', nI_pos', nI_pos, n_m1e, n_01, n_10, sT_1, sR_1_0, sR_1_1, sR_1_2, sR_1_3, sR_1_4, sR_1_5, sR_1_6, sR_1_7, sR_1_8, sR_1_9, sT_2, sT_3, sT_4, sT_5, sT_6, sT_7, sT_8, sT_9, sT_10, sT_11, sT_12, sT_13, sT_14, sR_2_1, sR_2_2, sR_2_3, sR_2_4, sR_2_5, sR_2_6, sR_2_7, sR_2_8, sR_2_9, sR_2_10, sR_2_11, sR_2_12, sT_15, sT_16, sT_17, sT_18, sT_19, sT_20, sT_21, sT_22, sT_23, sR_15_1, sR_15_2, sR_15_3, sR_15_4, sR_15_5, sR_15_6, sR_15_7, sR_15_8, sT_24, sT_25, sT_26, sT_27, sT_28, sT_29, sR_24_1, sR_24_2, sR_24_3, sR_24_4, sR_24_5, sT_71, sT_72, sR_71_0, sR_71_1, sR_71_2, sR_71_3, sR_71_4, sT_73, sT_74, sT_75, sR_73_0, sR_73_1, sR_73_2, sR_73_3, sR_73_4, sR_73_5, sT_84, sT_85, sT_86, sT_87, sR_84_0, sR_84_1, sR_84_2, sR_84_3, sR_84_4, sR_84_5, sT_88, sT_89, sR_88_0, sT_90, sT_91, sR_90_0, hb0, e3, es, hpe, h10, c22, hdn]
        | some d =>
          rw [hc] at hp es
          simp only [Option.isNone_some, Bool.false_eq_true, if_false, Bool.not_eq_true] at hp
          rw [hp, show nI (Bool.toNat false) = 0 from rfl] at hbit
          generalize dn b = db at *
          simp (disch := first | assumption | omega) [lstp, lc_W_pickLive_3, lb_W_pickLive_3, lu_W_pickLive_3, j_meth, j_out, j_rok, j_pad, lg_sl, s_seq_w, isN_inl, isN_inr, s_if, jb, x_c, x_iloc, x_aloc, x_lloc, x_bin, x_un, o_add, o_sub, o_mul, o_and, o_or, o_xor, o_shl, o_shr, o_ushr, o_max, o_min, o_i2b, o_i2c, o_i2l, o_l2i, x_fld, j_fget, x_idx, j_aget, x_len, j_alen, x_ofb, x_ite, xs_nil, xs_cons, x_callv, x_calls, s_callv, s_calls, j_recv, j_ret, j_retv, b_cmp, b_and, b_or, b_not, b_ofi, b_ite, b_true, s_skip, s_set, j_ty, j_lset, j_kill, s_inc, s_fput, j_fput, s_fop, s_aput, j_aput, j_nar, s_aop, s_ret, s_retv, s_go, s_pop, x_linc, x_finc, Value.category, if_icmp.holds, List.flatMap_cons, List.flatMap_nil, List.length_cons, List.length_append, List.length_nil, List.set_cons_succ, List.set_cons_zero, List.getElem?_cons_succ, List.getElem?_cons_zero, List.replicate, ite_and', ite_or', ite_int', nI_leI, nI_ltI, nI_eq, nI_add, nI_1, pk_mul, nI_clamp, n_in', nI_pos', nI_pos, n_m1e, n_01, n_10, sT_1, sR_1_0, sR_1_1, sR_1_2, sR_1_3, sR_1_4, sR_1_5, sR_1_6, sR_1_7, sR_1_8, sR_1_9, sT_2, sT_3, sT_4, sT_5, sT_6, sT_7, sT_8, sT_9, sT_10, sT_11, sT_12, sT_13, sT_14, sR_2_1, sR_2_2, sR_2_3, sR_2_4, sR_2_5, sR_2_6, sR_2_7, sR_2_8, sR_2_9, sR_2_10, sR_2_11, sR_2_12, sT_15, sT_16, sT_17, sT_18, sT_19, sT_20, sT_21, sT_22, sT_23, sR_15_1, sR_15_2, sR_15_3, sR_15_4, sR_15_5, sR_15_6, sR_15_7, sR_15_8, sT_24, sT_25, sT_26, sT_27, sT_28, sT_29, sR_24_1, sR_24_2, sR_24_3, sR_24_4, sR_24_5, sT_71, sT_72, sR_71_0, sR_71_1, sR_71_2, sR_71_3, sR_71_4, sT_73, sT_74, sT_75, sR_73_0, sR_73_1, sR_73_2, sR_73_3, sR_73_4, sR_73_5, sT_84, sT_85, sT_86, sT_87, sR_84_0, sR_84_1, sR_84_2, sR_84_3, sR_84_4, sR_84_5, sT_88, sT_89, sR_88_0, sT_90, sT_91, sR_90_0, hb0, e3, es, hpe, h10, hbit, hdn]
      exact ⟨_, hres, _, _, _, rfl, f1, c6, c74, c75⟩
  · rintro st ⟨h1, u3, u4, rfl, f1, c6, c74, c75⟩
    rw [Nat.sub_self, dn_0]
    have hn : lvF A (aNb A) (aNb A) = lvL A (aNb A) := by
      have := lvF_all A (aNb A) (aNb A) (Nat.le_refl _)
      rw [Nat.sub_self] at this
      simpa [lvL] using this
    rw [hn] at c6 c74 c75
    refine ⟨_, ?_, h1, u3, u4, rfl, f1, c6, c74, c75⟩
    simp (disch := first | assumption | omega) [lstp, lc_W_pickLive_3, lb_W_pickLive_3, lu_W_pickLive_3, j_meth, j_out, j_rok, j_pad, lg_sl, s_seq_w, isN_inl, isN_inr, s_if, jb, x_c, x_iloc, x_aloc, x_lloc, x_bin, x_un, o_add, o_sub, o_mul, o_and, o_or, o_xor, o_shl, o_shr, o_ushr, o_max, o_min, o_i2b, o_i2c, o_i2l, o_l2i, x_fld, j_fget, x_idx, j_aget, x_len, j_alen, x_ofb, x_ite, xs_nil, xs_cons, x_callv, x_calls, s_callv, s_calls, j_recv, j_ret, j_retv, b_cmp, b_and, b_or, b_not, b_ofi, b_ite, b_true, s_skip, s_set, j_ty, j_lset, j_kill, s_inc, s_fput, j_fput, s_fop, s_aput, j_aput, j_nar, s_aop, s_ret, s_retv, s_go, s_pop, x_linc, x_finc, Value.category, if_icmp.holds, List.flatMap_cons, List.flatMap_nil, List.length_cons, List.length_append, List.length_nil, List.set_cons_succ, List.set_cons_zero, List.getElem?_cons_succ, List.getElem?_cons_zero, List.replicate, ite_and', ite_or', ite_int', nI_leI, nI_ltI, nI_eq, nI_add, nI_1, pk_mul, nI_clamp, n_in', nI_pos', nI_pos, n_m1e, n_01, n_10, sT_1, sR_1_0, sR_1_1, sR_1_2, sR_1_3, sR_1_4, sR_1_5, sR_1_6, sR_1_7, sR_1_8, sR_1_9, sT_2, sT_3, sT_4, sT_5, sT_6, sT_7, sT_8, sT_9, sT_10, sT_11, sT_12, sT_13, sT_14, sR_2_1, sR_2_2, sR_2_3, sR_2_4, sR_2_5, sR_2_6, sR_2_7, sR_2_8, sR_2_9, sR_2_10, sR_2_11, sR_2_12, sT_15, sT_16, sT_17, sT_18, sT_19, sT_20, sT_21, sT_22, sT_23, sR_15_1, sR_15_2, sR_15_3, sR_15_4, sR_15_5, sR_15_6, sR_15_7, sR_15_8, sT_24, sT_25, sT_26, sT_27, sT_28, sT_29, sR_24_1, sR_24_2, sR_24_3, sR_24_4, sR_24_5, sT_71, sT_72, sR_71_0, sR_71_1, sR_71_2, sR_71_3, sR_71_4, sT_73, sT_74, sT_75, sR_73_0, sR_73_1, sR_73_2, sR_73_3, sR_73_4, sR_73_5, sT_84, sT_85, sT_86, sT_87, sR_84_0, sR_84_1, sR_84_2, sR_84_3, sR_84_4, sR_84_5, sT_88, sT_89, sR_88_0, sT_90, sT_91, sR_90_0]
theorem e_W_pickLive {A : AS} {h : jHp} (x : MK A h) : ∃ h', f_W_pickLive [.ref 73] h = some (none, h') ∧ Fr Wpk h h' ∧ WLv A h' := by
  have hs := x.1.1
  have w := x.1.2.1
  have h20 := w.2.2.1.1
  have c20 := x.1.2.2.1.1
  obtain ⟨v3, e1⟩ := e_W_pick1 x
  have f0 : Fr Wpk h (hSetI h 73 6 0) := Fr_set _ (Or.inl ⟨rfl, rfl⟩)
  have hW : ∀ a j, Wpk a j → ¬ cC a j := fun a j q => by
    rcases q with ⟨q, -⟩ | q | q <;> subst q <;> unfold cC isCA <;> rintro (z | ⟨c, q1, q2, q3⟩ | z) <;> omega
  have x1 := MK_fr x f0 hW
  have hs1 := x1.1.1
  have c21 := x1.1.2.2.1.1
  obtain ⟨h', u3, u4, e3, f3, l3⟩ := e_W_pick3 (v3 := v3) x1 (by rw [hI_setI, if_pos ⟨rfl, rfl⟩])
  refine ⟨h', ?_, Fr_trans f0 f3, l3⟩
  have hdn : nI (aNb A) - nI 1 = dn (aNb A) := by
    unfold dn
    rw [Int32.sub_eq_add_neg]
    rfl
  simp only [nI_0] at e1
  generalize hh1 : hSetI h 73 6 0 = h1 at *
  clear l3 f3 f0
  generalize ofPr A = M at *
  simp (disch := first | assumption | omega) [f_W_pickLive, body_W_pickLive, j_meth, j_out, j_rok, j_pad, lg_sl, s_seq_w, isN_inl, isN_inr, s_if, jb, x_c, x_iloc, x_aloc, x_lloc, x_bin, x_un, o_add, o_sub, o_mul, o_and, o_or, o_xor, o_shl, o_shr, o_ushr, o_max, o_min, o_i2b, o_i2c, o_i2l, o_l2i, x_fld, j_fget, x_idx, j_aget, x_len, j_alen, x_ofb, x_ite, xs_nil, xs_cons, x_callv, x_calls, s_callv, s_calls, j_recv, j_ret, j_retv, b_cmp, b_and, b_or, b_not, b_ofi, b_ite, b_true, s_skip, s_set, j_ty, j_lset, j_kill, s_inc, s_fput, j_fput, s_fop, s_aput, j_aput, j_nar, s_aop, s_ret, s_retv, s_go, s_pop, x_linc, x_finc, Value.category, if_icmp.holds, List.flatMap_cons, List.flatMap_nil, List.length_cons, List.length_append, List.length_nil, List.set_cons_succ, List.set_cons_zero, List.getElem?_cons_succ, List.getElem?_cons_zero, List.replicate, ite_and', ite_or', ite_int', nI_leI, nI_ltI, nI_eq, nI_add, nI_1, pk_mul, nI_clamp, n_in', nI_pos', nI_pos, n_m1e, n_01, n_10, sT_1, sR_1_0, sR_1_1, sR_1_2, sR_1_3, sR_1_4, sR_1_5, sR_1_6, sR_1_7, sR_1_8, sR_1_9, sT_2, sT_3, sT_4, sT_5, sT_6, sT_7, sT_8, sT_9, sT_10, sT_11, sT_12, sT_13, sT_14, sR_2_1, sR_2_2, sR_2_3, sR_2_4, sR_2_5, sR_2_6, sR_2_7, sR_2_8, sR_2_9, sR_2_10, sR_2_11, sR_2_12, sT_15, sT_16, sT_17, sT_18, sT_19, sT_20, sT_21, sT_22, sT_23, sR_15_1, sR_15_2, sR_15_3, sR_15_4, sR_15_5, sR_15_6, sR_15_7, sR_15_8, sT_24, sT_25, sT_26, sT_27, sT_28, sT_29, sR_24_1, sR_24_2, sR_24_3, sR_24_4, sR_24_5, sT_71, sT_72, sR_71_0, sR_71_1, sR_71_2, sR_71_3, sR_71_4, sT_73, sT_74, sT_75, sR_73_0, sR_73_1, sR_73_2, sR_73_3, sR_73_4, sR_73_5, sT_84, sT_85, sT_86, sT_87, sR_84_0, sR_84_1, sR_84_2, sR_84_3, sR_84_4, sR_84_5, sT_88, sT_89, sR_88_0, sT_90, sT_91, sR_90_0, nI_0, e1, hh1, c21, hdn, e3]
