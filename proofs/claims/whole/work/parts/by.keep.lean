/-! the Walk: keep -/
theorem hN_new (h : jHp) (k n : Nat) : hN (hNew h k n) = hN h + 1 := rfl
theorem hS_new (h : jHp) (k n : Nat) : hS (hNew h k n) = hS h + n := rfl
theorem hT_new (h : jHp) (k n a : Nat) : hT (hNew h k n) a = if a = hN h then (k, n) else hT h a := rfl
theorem hI_new (h : jHp) (k n a i : Nat) : hI (hNew h k n) a i = if a = hN h then 0 else hI h a i := rfl
theorem hJ_new (h : jHp) (k n a i : Nat) : hJ (hNew h k n) a i = if a = hN h then 0 else hJ h a i := rfl
theorem hR_new (h : jHp) (k n a i : Nat) : hR (hNew h k n) a i = if a = hN h then 0 else hR h a i := rfl
theorem hR_copy (h : jHp) (a sp b dp n : Nat) : hR (hCopy h a sp b dp n) = hR h := rfl
theorem hJ_copy (h : jHp) (a sp b dp n : Nat) : hJ (hCopy h a sp b dp n) = hJ h := rfl
theorem hN_copy (h : jHp) (a sp b dp n : Nat) : hN (hCopy h a sp b dp n) = hN h := rfl
theorem hS_copy (h : jHp) (a sp b dp n : Nat) : hS (hCopy h a sp b dp n) = hS h := rfl
theorem e_J_copyOf {h : jHp} {a m n : Nat} (ht : hT h a = (1, m)) (ha : a ≠ 0) (hl : a < hN h) (hmn : m < n) (hn : n ≤ 1000000) : f_J_copyOf [.ref a, .int (nI n)] h = some (some (.ref (hN h)), hCopy (hNew h 1 n) a 0 (hN h) 0 m) := by
  have hne : (nI n = nI m) = False := eq_false fun e => by
    have := (n_eq (by omega) (by omega)).mp e
    omega
  have h0 : (0 : Int32) ≤ nI n := nI_pos' (by omega)
  have h0m : (0 : Int32) ≤ nI m := nI_pos' (by omega)
  have cl : (nI n).toNatClampNeg = n := nI_clamp (by omega)
  have clm : (nI m).toNatClampNeg = m := nI_clamp (by omega)
  have t2 : hT (hNew h 1 n) a = (1, m) := by rw [hT_new, if_neg (by omega)]; exact ht
  have t3 : hT (hNew h 1 n) (hN h) = (1, n) := by rw [hT_new, if_pos rfl]
  have hmin : (if nI m ≤ nI n then nI m else nI n) = nI m := by
    rw [if_pos]
    rw [nI_leI (by omega) (by omega)]; omega
  have n0 : hN h ≠ 0 := by omega
  have hnm : (n < m) = False := eq_false (by omega)
  have hmn' : (m ≤ n) = True := eq_true (by omega)
  simp (disch := first | assumption | omega) [f_J_copyOf, body_J_copyOf, j_meth, j_out, j_rok, j_pad, lg_sl, s_seq_w, isN_inl, isN_inr, s_if, jb, x_c, x_iloc, x_aloc, x_lloc, x_bin, x_un, o_add, o_sub, o_mul, o_and, o_or, o_xor, o_shl, o_shr, o_ushr, o_max, o_min, o_i2b, o_i2c, o_i2l, o_l2i, x_fld, j_fget, x_idx, j_aget, x_len, j_alen, x_ofb, x_ite, xs_nil, xs_cons, x_callv, x_calls, s_callv, s_calls, j_recv, j_ret, j_retv, b_cmp, b_and, b_or, b_not, b_ofi, b_ite, b_true, s_skip, s_set, j_ty, j_lset, j_kill, s_inc, s_fput, j_fput, s_fop, s_aput, j_aput, j_nar, s_aop, s_ret, s_retv, s_go, s_pop, x_linc, x_finc, Value.category, if_icmp.holds, List.flatMap_cons, List.flatMap_nil, List.length_cons, List.length_append, List.length_nil, List.set_cons_succ, List.set_cons_zero, List.getElem?_cons_succ, List.getElem?_cons_zero, List.replicate, ite_and', ite_or', ite_int', nI_leI, nI_ltI, nI_eq, nI_add, nI_1, pk_mul, nI_clamp, n_in', nI_pos', nI_pos, n_m1e, n_01, n_10, sT_1, sR_1_0, sR_1_1, sR_1_2, sR_1_3, sR_1_4, sR_1_5, sR_1_6, sR_1_7, sR_1_8, sR_1_9, sT_2, sT_3, sT_4, sT_5, sT_6, sT_7, sT_8, sT_9, sT_10, sT_11, sT_12, sT_13, sT_14, sR_2_1, sR_2_2, sR_2_3, sR_2_4, sR_2_5, sR_2_6, sR_2_7, sR_2_8, sR_2_9, sR_2_10, sR_2_11, sR_2_12, sT_15, sT_16, sT_17, sT_18, sT_19, sT_20, sT_21, sT_22, sT_23, sR_15_1, sR_15_2, sR_15_3, sR_15_4, sR_15_5, sR_15_6, sR_15_7, sR_15_8, sT_24, sT_25, sT_26, sT_27, sT_28, sT_29, sR_24_1, sR_24_2, sR_24_3, sR_24_4, sR_24_5, sT_71, sT_72, sR_71_0, sR_71_1, sR_71_2, sR_71_3, sR_71_4, sT_73, sT_74, sT_75, sR_73_0, sR_73_1, sR_73_2, sR_73_3, sR_73_4, sR_73_5, sT_84, sT_85, sT_86, sT_87, sR_84_0, sR_84_1, sR_84_2, sR_84_3, sR_84_4, sR_84_5, sT_88, sT_89, sR_88_0, sT_90, sT_91, sR_90_0, ht, ha, hne, x_newa, cl, h0, hn, t2, t3, s_copy, j_copy, nI_0, h0m, clm, n0, hnm, hmn']
def Wkp (fa a j : Nat) : Prop := (a = 73 ∧ j = 12) ∨ a = fa
/-- what was found since h0 -/
def FI (h0 : jHp) (l : List Nat) (h : jHp) : Prop := FG (Wkp (hR h0 73 11)) (fun _ _ => False) h0 h ∧ (∀ k, hR h 77 k = hR h0 77 k) ∧ (hS h0 ≤ hS h ∧ hN h + pot h0 ≤ hN h0 + pot h ∧ hS h + pot h0 ≤ hS h0 + pot h) ∧ ∃ fa i, hR h 73 11 = fa ∧ i ≤ 8 ∧ hT h fa = (1, 64 * 2 ^ i) ∧ (fa = hR h0 73 11 ∨ hN h0 ≤ fa) ∧ fa < hN h ∧ hI h 73 12 = nI l.length ∧ l.length ≤ 64 * 2 ^ i ∧ ∀ j, j < l.length → hI h fa j = nI (l.getD j 0)
theorem FI_keep {h0 h : jHp} {l : List Nat} {S : Nat} (hs0 : Shape h0) (hg : isG (hR h0 73 11)) (hra : hR h0 77 8 < hN h0) (f : FI h0 l h) (hl : l.length < 12288) : ∃ h', f_W_keep [.ref 73, .int (nI S)] h = some (none, h') ∧ FI h0 (l ++ [S]) h' := by
  obtain ⟨f1, f2, ⟨f3, f4, f5⟩, fa, i, g1, g2, g3, g4, g5, g6, g7, g8⟩ := f
  have hs := FG_shape hs0 f1
  have h142 := hs.2.2
  have h142' := hs0.2.2
  have hfa : fa ≠ 73 ∧ fa ≠ 0 ∧ fa ≠ 77 := by
    unfold isG at hg
    omega
  have hN0 := f1.2.1
  have hra' : (hT h (hR h0 77 8)).2 = (hT h0 (hR h0 77 8)).2 := by rw [f1.1 _ hra]
  have t73 := sT_73 hs
  by_cases hc : l.length < 64 * 2 ^ i
  · have hb : (64 * 2 ^ i) ≤ 64 * 2 ^ 8 := Nat.mul_le_mul_left _ (Nat.pow_le_pow_right (by decide) g2)
    generalize hL : 64 * 2 ^ i = L at *
    refine ⟨hSetI (hSetI h fa l.length (nI S)) 73 12 (nI (l.length + 1)), ?_, ?_⟩
    · clear f1 g8 f4 f5 f3
      have hin : j_in (nI l.length) L = true := n_in' hc (by omega)
      have h12 : hI (hSetI h fa l.length (nI S)) 73 12 = nI l.length := by rw [hI_setI, if_neg (by omega)]; exact g6
      generalize l.length = n at *
      have hs1 : Shape (hSetI h fa n (nI S)) := hs
      have n0 := hfa.2.1
      generalize hh1 : hSetI h fa n (nI S) = h1 at *
      have hle : (L ≤ n) = False := eq_false (by omega)
      simp (disch := first | assumption | omega) [f_W_keep, body_W_keep, j_meth, j_out, j_rok, j_pad, lg_sl, s_seq_w, isN_inl, isN_inr, s_if, jb, x_c, x_iloc, x_aloc, x_lloc, x_bin, x_un, o_add, o_sub, o_mul, o_and, o_or, o_xor, o_shl, o_shr, o_ushr, o_max, o_min, o_i2b, o_i2c, o_i2l, o_l2i, x_fld, j_fget, x_idx, j_aget, x_len, j_alen, x_ofb, x_ite, xs_nil, xs_cons, x_callv, x_calls, s_callv, s_calls, j_recv, j_ret, j_retv, b_cmp, b_and, b_or, b_not, b_ofi, b_ite, b_true, s_skip, s_set, j_ty, j_lset, j_kill, s_inc, s_fput, j_fput, s_fop, s_aput, j_aput, j_nar, s_aop, s_ret, s_retv, s_go, s_pop, x_linc, x_finc, Value.category, if_icmp.holds, List.flatMap_cons, List.flatMap_nil, List.length_cons, List.length_append, List.length_nil, List.set_cons_succ, List.set_cons_zero, List.getElem?_cons_succ, List.getElem?_cons_zero, List.replicate, ite_and', ite_or', ite_int', nI_leI, nI_ltI, nI_eq, nI_add, nI_1, pk_mul, nI_clamp, n_in', nI_pos', nI_pos, n_m1e, n_01, n_10, sT_1, sR_1_0, sR_1_1, sR_1_2, sR_1_3, sR_1_4, sR_1_5, sR_1_6, sR_1_7, sR_1_8, sR_1_9, sT_2, sT_3, sT_4, sT_5, sT_6, sT_7, sT_8, sT_9, sT_10, sT_11, sT_12, sT_13, sT_14, sR_2_1, sR_2_2, sR_2_3, sR_2_4, sR_2_5, sR_2_6, sR_2_7, sR_2_8, sR_2_9, sR_2_10, sR_2_11, sR_2_12, sT_15, sT_16, sT_17, sT_18, sT_19, sT_20, sT_21, sT_22, sT_23, sR_15_1, sR_15_2, sR_15_3, sR_15_4, sR_15_5, sR_15_6, sR_15_7, sR_15_8, sT_24, sT_25, sT_26, sT_27, sT_28, sT_29, sR_24_1, sR_24_2, sR_24_3, sR_24_4, sR_24_5, sT_71, sT_72, sR_71_0, sR_71_1, sR_71_2, sR_71_3, sR_71_4, sT_73, sT_74, sT_75, sR_73_0, sR_73_1, sR_73_2, sR_73_3, sR_73_4, sR_73_5, sT_84, sT_85, sT_86, sT_87, sR_84_0, sR_84_1, sR_84_2, sR_84_3, sR_84_4, sR_84_5, sT_88, sT_89, sR_88_0, sT_90, sT_91, sR_90_0, g6, g1, g3, hle, n0, hin, hh1, h12]
    · refine ⟨?_, f2, ⟨f3, f4, f5⟩, fa, i, g1, g2, by rw [hL]; exact g3, g4, g5, by rw [hI_setI, if_pos ⟨rfl, rfl⟩]; simp, by simp; omega, fun j hj => ?_⟩
      · refine ⟨f1.1, f1.2.1, fun a k ha hn => ?_, f1.2.2.2.1, f1.2.2.2.2⟩
        unfold Wkp at hn
        rw [hI_setI, if_neg (by omega), hI_setI, if_neg (by omega)]
        exact f1.2.2.1 a k ha hn
      · rw [hI_setI, if_neg (by omega), hI_setI]
        by_cases e : j = l.length
        · subst e
          rw [if_pos ⟨rfl, rfl⟩]
          simp
        · rw [if_neg (by omega)]
          simp at hj
          rw [g8 j (by omega)]
          simp [List.getElem?_append_left (show j < l.length by omega)]
  · have hi12 : i ≤ 7 := by
      apply Classical.byContradiction
      intro z
      have : 2 ^ 8 ≤ 2 ^ i := Nat.pow_le_pow_right (by decide) (by omega)
      omega
    have hb : (64 * 2 ^ i) ≤ 64 * 2 ^ 7 := Nat.mul_le_mul_left _ (Nat.pow_le_pow_right (by decide) hi12)
    have hp := Nat.two_pow_pos i
    have hL2 : 64 * 2 ^ (i + 1) = 64 * 2 ^ i * 2 := by rw [Nat.pow_succ]; omega
    have hl0 : l.length = 64 * 2 ^ i := by omega
    have hL64 : 64 ≤ 64 * 2 ^ i := by omega
    generalize hL : 64 * 2 ^ i = L at *
    have ec := e_J_copyOf g3 hfa.2.1 g5 (n := L * 2) (by omega) (by omega)
    generalize hh1 : hCopy (hNew h 1 (L * 2)) fa 0 (hN h) 0 L = h1 at *
    have I1 : ∀ a k, hI h1 a k = if a = hN h ∧ 0 ≤ k ∧ k < 0 + L then hI (hNew h 1 (L * 2)) fa (0 + (k - 0)) else hI (hNew h 1 (L * 2)) a k := fun a k => by rw [← hh1]; rfl
    have T1 : ∀ a, hT h1 a = if a = hN h then (1, L * 2) else hT h a := fun a => by rw [← hh1]; rfl
    have R1 : ∀ a k, hR h1 a k = if a = hN h then 0 else hR h a k := fun a k => by rw [← hh1]; rfl
    have J1 : ∀ a k, hJ h1 a k = if a = hN h then 0 else hJ h a k := fun a k => by rw [← hh1]; rfl
    have N1 : hN h1 = hN h + 1 := by rw [← hh1]; rfl
    have S1 : hS h1 = hS h + L * 2 := by rw [← hh1]; rfl
    have I1o : ∀ a k, a ≠ hN h → hI h1 a k = hI h a k := fun a k ha => by rw [I1, if_neg (fun q => ha q.1), hI_new, if_neg ha]
    have I1n : ∀ k, k < L → hI h1 (hN h) k = hI h fa k := fun k hk => by rw [I1, if_pos ⟨rfl, by omega, by omega⟩, hI_new, if_neg (by omega)]; simp
    clear hh1
    generalize hh2 : hSetR h1 73 11 (hN h) = h2
    have I2 : ∀ a k, hI h2 a k = hI h1 a k := fun a k => by rw [← hh2]; rfl
    have T2 : hT h2 = hT h1 := by rw [← hh2]; rfl
    have R2 : ∀ a k, hR h2 a k = if a = 73 ∧ k = 11 then hN h else hR h1 a k := fun a k => by rw [← hh2]; rfl
    have J2 : ∀ a k, hJ h2 a k = hJ h1 a k := fun a k => by rw [← hh2]; rfl
    have N2 : hN h2 = hN h + 1 := by rw [← hh2]; exact N1
    have S2 : hS h2 = hS h + L * 2 := by rw [← hh2]; exact S1
    refine ⟨hSetI (hSetI h2 (hN h) l.length (nI S)) 73 12 (nI (l.length + 1)), ?_, ?_⟩
    · have t1 : hT h1 73 = (21, 13) := by rw [T1, if_neg (by omega)]; exact t73
      have t2 : hT h2 73 = (21, 13) := by rw [T2]; exact t1
      have t3 : hT h2 (hN h) = (1, L * 2) := by rw [T2, T1, if_pos rfl]
      have r2 : hR h2 73 11 = hN h := by rw [R2, if_pos ⟨rfl, rfl⟩]
      have i2 : hI h2 73 12 = nI L := by rw [I2, I1o _ _ (by omega), g6, hl0]
      have n0 : hN h ≠ 0 := by omega
      have h12 : hI (hSetI h2 (hN h) L (nI S)) 73 12 = nI L := by rw [hI_setI, if_neg (by omega)]; exact i2
      have t4 : hT (hSetI h2 (hN h) L (nI S)) 73 = (21, 13) := t2
      have hin : j_in (nI L) (L * 2) = true := n_in' (by omega) (by omega)
      have hnl : nI L * nI 2 = nI (L * 2) := pk_mul _ _
      rw [hl0] at g6 ⊢
      have hn1 := hfa.2.1
      generalize hh3 : hSetI h2 (hN h) L (nI S) = h3 at *
      clear f1 g8 f4 f5 f3 I1 T1 R1 J1 I1o I1n I2 T2 R2 J2
      generalize hN h = a1 at *
      simp (disch := first | assumption | omega) [f_W_keep, body_W_keep, j_meth, j_out, j_rok, j_pad, lg_sl, s_seq_w, isN_inl, isN_inr, s_if, jb, x_c, x_iloc, x_aloc, x_lloc, x_bin, x_un, o_add, o_sub, o_mul, o_and, o_or, o_xor, o_shl, o_shr, o_ushr, o_max, o_min, o_i2b, o_i2c, o_i2l, o_l2i, x_fld, j_fget, x_idx, j_aget, x_len, j_alen, x_ofb, x_ite, xs_nil, xs_cons, x_callv, x_calls, s_callv, s_calls, j_recv, j_ret, j_retv, b_cmp, b_and, b_or, b_not, b_ofi, b_ite, b_true, s_skip, s_set, j_ty, j_lset, j_kill, s_inc, s_fput, j_fput, s_fop, s_aput, j_aput, j_nar, s_aop, s_ret, s_retv, s_go, s_pop, x_linc, x_finc, Value.category, if_icmp.holds, List.flatMap_cons, List.flatMap_nil, List.length_cons, List.length_append, List.length_nil, List.set_cons_succ, List.set_cons_zero, List.getElem?_cons_succ, List.getElem?_cons_zero, List.replicate, ite_and', ite_or', ite_int', nI_leI, nI_ltI, nI_eq, nI_add, nI_1, pk_mul, nI_clamp, n_in', nI_pos', nI_pos, n_m1e, n_01, n_10, sT_1, sR_1_0, sR_1_1, sR_1_2, sR_1_3, sR_1_4, sR_1_5, sR_1_6, sR_1_7, sR_1_8, sR_1_9, sT_2, sT_3, sT_4, sT_5, sT_6, sT_7, sT_8, sT_9, sT_10, sT_11, sT_12, sT_13, sT_14, sR_2_1, sR_2_2, sR_2_3, sR_2_4, sR_2_5, sR_2_6, sR_2_7, sR_2_8, sR_2_9, sR_2_10, sR_2_11, sR_2_12, sT_15, sT_16, sT_17, sT_18, sT_19, sT_20, sT_21, sT_22, sT_23, sR_15_1, sR_15_2, sR_15_3, sR_15_4, sR_15_5, sR_15_6, sR_15_7, sR_15_8, sT_24, sT_25, sT_26, sT_27, sT_28, sT_29, sR_24_1, sR_24_2, sR_24_3, sR_24_4, sR_24_5, sT_71, sT_72, sR_71_0, sR_71_1, sR_71_2, sR_71_3, sR_71_4, sT_73, sT_74, sT_75, sR_73_0, sR_73_1, sR_73_2, sR_73_3, sR_73_4, sR_73_5, sT_84, sT_85, sT_86, sT_87, sR_84_0, sR_84_1, sR_84_2, sR_84_3, sR_84_4, sR_84_5, sT_88, sT_89, sR_88_0, sT_90, sT_91, sR_90_0, g6, g1, g3, hn1, hnl, ec, t73, t1, t2, t3, t4, r2, i2, n0, hh2, hh3, hin, h12]
    · have hra2 : hR h 77 8 = hR h0 77 8 := f2 8
      have hp2 : pot (hSetI (hSetI h2 (hN h) l.length (nI S)) 73 12 (nI (l.length + 1))) = pot h + 2 * L := by
        unfold pot
        rw [show hR (hSetI (hSetI h2 (hN h) l.length (nI S)) 73 12 (nI (l.length + 1))) = hR h2 from rfl, show hT (hSetI (hSetI h2 (hN h) l.length (nI S)) 73 12 (nI (l.length + 1))) = hT h2 from rfl]
        rw [R2 73 11, if_pos ⟨rfl, rfl⟩, R2 77 8, if_neg (by omega), R1 77 8, if_neg (by omega), T2, T1 (hN h), if_pos rfl, T1 (hR h 77 8), if_neg (by omega), g1, g3]
        simp only
        omega
      refine ⟨?_, fun k => ?_, ⟨?_, ?_, ?_⟩, hN h, i + 1, ?_, by omega, ?_, Or.inr hN0, ?_, by rw [hI_setI, if_pos ⟨rfl, rfl⟩]; simp, by simp; omega, fun j hj => ?_⟩
      · refine ⟨fun a ha => ?_, ?_, fun a k ha hn => ?_, fun a k ha hn => ?_, fun a k ha hn => ?_⟩
        · show hT h2 a = _
          rw [T2, T1, if_neg (by omega)]; exact f1.1 a ha
        · show hN h0 ≤ hN h2
          omega
        · rw [hI_setI, if_neg (by unfold Wkp at hn; omega), hI_setI, if_neg (by omega), I2, I1o _ _ (by omega)]
          exact f1.2.2.1 a k ha hn
        · show hJ h2 a k = _
          rw [J2, J1, if_neg (by omega)]; exact f1.2.2.2.1 a k ha hn
        · show hR h2 a k = _
          rw [R2, if_neg (by unfold Vg at hn; omega), R1, if_neg (by omega)]
          exact f1.2.2.2.2 a k ha hn
      · show hR h2 77 k = _
        rw [R2, if_neg (by omega), R1, if_neg (by omega)]
        exact f2 k
      · show hS h0 ≤ hS h2
        omega
      · rw [hp2]
        show hN h2 + pot h0 ≤ _
        omega
      · rw [hp2]
        show hS h2 + pot h0 ≤ _
        omega
      · show hR h2 73 11 = _
        rw [R2, if_pos ⟨rfl, rfl⟩]
      · show hT h2 (hN h) = _
        rw [T2, T1, if_pos rfl, hL2]
      · show hN h < hN h2
        omega
      · rw [hI_setI, if_neg (by omega), hI_setI]
        by_cases e : j = l.length
        · subst e
          rw [if_pos ⟨rfl, rfl⟩]
          simp
        · rw [if_neg (by omega), I2]
          simp at hj
          rw [I1n j (by omega), g8 j (by omega)]
          simp [List.getElem?_append_left (show j < l.length by omega)]
