noncomputable def lnX : jSt := (s_seq (s_if (b_not (b_ofi (x_callv 12 f_M_passes (xs_cons (x_aloc 0) (xs_cons (x_c (.int (nI 120))) xs_nil))))) (s_ret (x_c (.int (nI 0)))) s_skip) (s_seq (s_set 0 1 (x_callv 12 f_M_two (xs_cons (x_aloc 0) (xs_cons (x_c (.int (nI 124))) xs_nil)))) (s_seq (s_if (b_cmp .eq (x_iloc 1) (x_c (.int (-1)))) (s_ret (x_c (.int (nI 0)))) s_skip) (s_seq (s_aput 1 (x_fld 12 1 49 (x_aloc 0)) (x_fld 12 0 50 (x_aloc 0)) (x_iloc 1)) (s_seq (s_fop 12 50 o_add (x_aloc 0) (x_c (.int (nI 1)))) (s_ret (x_c (.int (nI 1)))))))))
noncomputable def ln_w : jSt := (s_seq (s_set 0 1 (x_callv 12 f_M_two (xs_cons (x_aloc 0) (xs_cons (x_c (.int (nI 38))) xs_nil)))) (s_seq (s_if (b_cmp .eq (x_iloc 1) (x_c (.int (-1)))) (s_ret (x_c (.int (nI 0)))) s_skip) (s_seq (s_aput 1 (x_fld 12 1 47 (x_aloc 0)) (x_fld 12 0 48 (x_aloc 0)) (x_iloc 1)) (s_seq (s_fop 12 48 o_add (x_aloc 0) (x_c (.int (nI 1)))) (s_ret (x_c (.int (nI 1))))))))
noncomputable def lnT4 : jSt := (s_seq (s_if (b_ofi (x_callv 12 f_M_passes (xs_cons (x_aloc 0) (xs_cons (x_c (.int (nI 119))) xs_nil)))) ln_w s_skip) lnX)
noncomputable def ln_k : jSt := (s_seq (s_set 0 1 (x_callv 12 f_M_digit (xs_cons (x_aloc 0) (xs_cons (x_c (.int (nI 51))) xs_nil)))) (s_seq (s_if (b_or (b_cmp .eq (x_iloc 1) (x_c (.int (-1)))) (b_not (b_ofi (x_callv 12 f_M_passes (xs_cons (x_aloc 0) (xs_cons (x_c (.int (nI 42))) xs_nil)))))) (s_ret (x_c (.int (nI 0)))) s_skip) (s_seq (s_set 0 2 (x_callv 12 f_M_digit (xs_cons (x_aloc 0) (xs_cons (x_c (.int (nI 57))) xs_nil)))) (s_seq (s_if (b_cmp .eq (x_iloc 2) (x_c (.int (-1)))) (s_ret (x_c (.int (nI 0)))) s_skip) (s_seq (s_aput 1 (x_fld 12 1 44 (x_aloc 0)) (x_fld 12 0 46 (x_aloc 0)) (x_iloc 1)) (s_seq (s_aput 1 (x_fld 12 1 45 (x_aloc 0)) (x_fld 12 0 46 (x_aloc 0)) (x_iloc 2)) (s_seq (s_fop 12 46 o_add (x_aloc 0) (x_c (.int (nI 1)))) (s_ret (x_c (.int (nI 1)))))))))))
noncomputable def lnT3 : jSt := (s_seq (s_if (b_ofi (x_callv 12 f_M_passes (xs_cons (x_aloc 0) (xs_cons (x_c (.int (nI 107))) xs_nil)))) ln_k s_skip) lnT4)
noncomputable def ln_r : jSt := (s_seq (s_fput 12 0 0 43 (x_aloc 0) (x_c (.int (nI 0)))) (s_seq (s_if (b_not (b_ofi (x_callv 12 f_M_key (xs_cons (x_aloc 0) xs_nil)))) (s_ret (x_c (.int (nI 0)))) s_skip) (s_seq (s_loop 1 2 (lc_M_line_1) (lb_M_line_1) (lu_M_line_1)) (s_ret (x_c (.int (nI 1)))))))
noncomputable def lnT2 : jSt := (s_seq (s_if (b_ofi (x_callv 12 f_M_passes (xs_cons (x_aloc 0) (xs_cons (x_c (.int (nI 114))) xs_nil)))) ln_r s_skip) lnT3)
noncomputable def ln_c : jSt := (s_seq (s_set 0 1 (x_callv 12 f_M_number (xs_cons (x_aloc 0) xs_nil))) (s_seq (s_if (b_cmp .eq (x_iloc 1) (x_c (.int (-1)))) (s_ret (x_c (.int (nI 0)))) s_skip) (s_seq (s_fput 12 0 0 41 (x_aloc 0) (x_iloc 1)) (s_ret (x_c (.int (nI 1)))))))
noncomputable def lnT1 : jSt := (s_seq (s_if (b_ofi (x_callv 12 f_M_passes (xs_cons (x_aloc 0) (xs_cons (x_c (.int (nI 99))) xs_nil)))) ln_c s_skip) lnT2)
noncomputable def ln_q : jSt := (s_seq (s_set 0 1 (x_callv 12 f_M_number (xs_cons (x_aloc 0) xs_nil))) (s_seq (s_if (b_cmp .eq (x_iloc 1) (x_c (.int (-1)))) (s_ret (x_c (.int (nI 0)))) s_skip) (s_seq (s_fput 12 0 0 40 (x_aloc 0) (x_iloc 1)) (s_ret (x_c (.int (nI 1)))))))
noncomputable def lnT0 : jSt := (s_seq (s_if (b_ofi (x_callv 12 f_M_passes (xs_cons (x_aloc 0) (xs_cons (x_c (.int (nI 113))) xs_nil)))) ln_q s_skip) lnT1)
theorem ln_body : body_M_line = lnT0 := rfl
theorem p_no {tx : List Nat} {i : Nat} {h : jHp} (r : RP tx i h) (hi : i < 2 ^ 31) {c : Nat} (hc : c < 128) (q : tg tx i ≠ some c) : f_M_passes [.ref 98, .int (nI c)] h = some (some (.int 0), h) := by
  have e := e_M_here r hi
  have hh := hv_c (o := tg tx i) (fun b hb => (tg_256 r.2.1.2 hb).1) hc
  have hs := r.1
  have q' : ¬ hv (tg tx i) = nI c := by rw [hh]; exact q
  simp (disch := first | assumption | omega) [f_M_passes, body_M_passes, j_meth, j_out, j_rok, j_pad, lg_sl, s_seq_w, isN_inl, isN_inr, s_if, jb, x_c, x_iloc, x_aloc, x_lloc, x_bin, x_un, o_add, o_sub, o_mul, o_and, o_or, o_xor, o_shl, o_shr, o_ushr, o_max, o_min, o_i2b, o_i2c, o_i2l, o_l2i, x_fld, j_fget, x_idx, j_aget, x_len, j_alen, x_ofb, x_ite, xs_nil, xs_cons, x_callv, x_calls, s_callv, s_calls, j_recv, j_ret, j_retv, b_cmp, b_and, b_or, b_not, b_ofi, b_ite, b_true, s_skip, s_set, j_ty, j_lset, j_kill, s_inc, s_fput, j_fput, s_fop, s_aput, j_aput, j_nar, s_aop, s_ret, s_retv, s_go, s_pop, x_linc, x_finc, Value.category, if_icmp.holds, List.flatMap_cons, List.flatMap_nil, List.length_cons, List.length_append, List.length_nil, List.set_cons_succ, List.set_cons_zero, List.getElem?_cons_succ, List.getElem?_cons_zero, List.replicate, ite_and', ite_or', ite_int', nI_leI, nI_ltI, nI_eq, nI_add, nI_1, pk_mul, nI_clamp, n_in', nI_pos', nI_pos, n_m1e, n_01, n_10, sT_98, sT_99, sT_100, sT_101, sT_102, sT_103, sT_104, sT_105, sT_106, sT_107, sT_108, sT_109, sT_110, sT_111, sT_112, sT_113, sT_114, sT_115, sT_116, sT_117, sT_118, sT_119, sT_120, sT_121, sT_122, sT_123, sT_124, sT_125, sT_126, sT_127, sT_128, sT_129, sT_130, sT_131, sT_132, sT_133, sT_134, sT_135, sT_136, sT_137, sT_138, sT_139, sT_140, sR_98_1, sR_98_4, sR_98_5, sR_98_6, sR_98_7, sR_98_8, sR_98_9, sR_98_10, sR_98_12, sR_98_13, sR_98_14, sR_98_15, sR_98_16, sR_98_17, sR_98_18, sR_98_19, sR_98_20, sR_98_21, sR_98_22, sR_98_23, sR_98_24, sR_98_25, sR_98_26, sR_98_27, sR_98_28, sR_98_29, sR_98_31, sR_98_34, sR_98_35, sR_98_36, sR_98_42, sR_98_44, sR_98_45, sR_98_47, sR_98_49, sR_98_51, sR_98_56, sR_98_58, sR_98_62, sR_98_65, sR_98_66, sR_98_69, e, q', nI_0]
theorem p_yes {tx : List Nat} {i : Nat} {h : jHp} (r : RP tx i h) (hi : i < 2 ^ 31) {c : Nat} (hc : c < 128) (q : tg tx i = some c) : f_M_passes [.ref 98, .int (nI c)] h = some (some (.int 1), hSetI h 98 39 (nI (i + 1))) := by
  have e := e_M_here r hi
  have hh := hv_c (o := tg tx i) (fun b hb => (tg_256 r.2.1.2 hb).1) hc
  have hs := r.1
  have c39 := r.2.2.2.1
  have q' : hv (tg tx i) = nI c := by rw [hh]; exact q
  rw [q'] at e
  simp (disch := first | assumption | omega) [f_M_passes, body_M_passes, j_meth, j_out, j_rok, j_pad, lg_sl, s_seq_w, isN_inl, isN_inr, s_if, jb, x_c, x_iloc, x_aloc, x_lloc, x_bin, x_un, o_add, o_sub, o_mul, o_and, o_or, o_xor, o_shl, o_shr, o_ushr, o_max, o_min, o_i2b, o_i2c, o_i2l, o_l2i, x_fld, j_fget, x_idx, j_aget, x_len, j_alen, x_ofb, x_ite, xs_nil, xs_cons, x_callv, x_calls, s_callv, s_calls, j_recv, j_ret, j_retv, b_cmp, b_and, b_or, b_not, b_ofi, b_ite, b_true, s_skip, s_set, j_ty, j_lset, j_kill, s_inc, s_fput, j_fput, s_fop, s_aput, j_aput, j_nar, s_aop, s_ret, s_retv, s_go, s_pop, x_linc, x_finc, Value.category, if_icmp.holds, List.flatMap_cons, List.flatMap_nil, List.length_cons, List.length_append, List.length_nil, List.set_cons_succ, List.set_cons_zero, List.getElem?_cons_succ, List.getElem?_cons_zero, List.replicate, ite_and', ite_or', ite_int', nI_leI, nI_ltI, nI_eq, nI_add, nI_1, pk_mul, nI_clamp, n_in', nI_pos', nI_pos, n_m1e, n_01, n_10, sT_98, sT_99, sT_100, sT_101, sT_102, sT_103, sT_104, sT_105, sT_106, sT_107, sT_108, sT_109, sT_110, sT_111, sT_112, sT_113, sT_114, sT_115, sT_116, sT_117, sT_118, sT_119, sT_120, sT_121, sT_122, sT_123, sT_124, sT_125, sT_126, sT_127, sT_128, sT_129, sT_130, sT_131, sT_132, sT_133, sT_134, sT_135, sT_136, sT_137, sT_138, sT_139, sT_140, sR_98_1, sR_98_4, sR_98_5, sR_98_6, sR_98_7, sR_98_8, sR_98_9, sR_98_10, sR_98_12, sR_98_13, sR_98_14, sR_98_15, sR_98_16, sR_98_17, sR_98_18, sR_98_19, sR_98_20, sR_98_21, sR_98_22, sR_98_23, sR_98_24, sR_98_25, sR_98_26, sR_98_27, sR_98_28, sR_98_29, sR_98_31, sR_98_34, sR_98_35, sR_98_36, sR_98_42, sR_98_44, sR_98_45, sR_98_47, sR_98_49, sR_98_51, sR_98_56, sR_98_58, sR_98_62, sR_98_65, sR_98_66, sR_98_69, e, c39, n_11]
theorem ln_no {tx : List Nat} {i : Nat} {h : jHp} (r : RP tx i h) (hi : i < 2 ^ 31) {c : Nat} (hc : c < 128) (q : tg tx i ≠ some c) (B T : jSt) (L : List Value) : s_seq (s_if (b_ofi (x_callv 12 f_M_passes (xs_cons (x_aloc 0) (xs_cons (x_c (.int (nI c))) xs_nil)))) B s_skip) T (.ref 98 :: L, h) = T (.ref 98 :: L, h) := by
  have e := p_no r hi hc q
  have hs := r.1
  simp (disch := first | assumption | omega) [j_meth, j_out, j_rok, j_pad, lg_sl, s_seq_w, isN_inl, isN_inr, s_if, jb, x_c, x_iloc, x_aloc, x_lloc, x_bin, x_un, o_add, o_sub, o_mul, o_and, o_or, o_xor, o_shl, o_shr, o_ushr, o_max, o_min, o_i2b, o_i2c, o_i2l, o_l2i, x_fld, j_fget, x_idx, j_aget, x_len, j_alen, x_ofb, x_ite, xs_nil, xs_cons, x_callv, x_calls, s_callv, s_calls, j_recv, j_ret, j_retv, b_cmp, b_and, b_or, b_not, b_ofi, b_ite, b_true, s_skip, s_set, j_ty, j_lset, j_kill, s_inc, s_fput, j_fput, s_fop, s_aput, j_aput, j_nar, s_aop, s_ret, s_retv, s_go, s_pop, x_linc, x_finc, Value.category, if_icmp.holds, List.flatMap_cons, List.flatMap_nil, List.length_cons, List.length_append, List.length_nil, List.set_cons_succ, List.set_cons_zero, List.getElem?_cons_succ, List.getElem?_cons_zero, List.replicate, ite_and', ite_or', ite_int', nI_leI, nI_ltI, nI_eq, nI_add, nI_1, pk_mul, nI_clamp, n_in', nI_pos', nI_pos, n_m1e, n_01, n_10, sT_98, sT_99, sT_100, sT_101, sT_102, sT_103, sT_104, sT_105, sT_106, sT_107, sT_108, sT_109, sT_110, sT_111, sT_112, sT_113, sT_114, sT_115, sT_116, sT_117, sT_118, sT_119, sT_120, sT_121, sT_122, sT_123, sT_124, sT_125, sT_126, sT_127, sT_128, sT_129, sT_130, sT_131, sT_132, sT_133, sT_134, sT_135, sT_136, sT_137, sT_138, sT_139, sT_140, sR_98_1, sR_98_4, sR_98_5, sR_98_6, sR_98_7, sR_98_8, sR_98_9, sR_98_10, sR_98_12, sR_98_13, sR_98_14, sR_98_15, sR_98_16, sR_98_17, sR_98_18, sR_98_19, sR_98_20, sR_98_21, sR_98_22, sR_98_23, sR_98_24, sR_98_25, sR_98_26, sR_98_27, sR_98_28, sR_98_29, sR_98_31, sR_98_34, sR_98_35, sR_98_36, sR_98_42, sR_98_44, sR_98_45, sR_98_47, sR_98_49, sR_98_51, sR_98_56, sR_98_58, sR_98_62, sR_98_65, sR_98_66, sR_98_69, e]
theorem ln_yes {tx : List Nat} {i : Nat} {h : jHp} (r : RP tx i h) (hi : i < 2 ^ 31) {c : Nat} (hc : c < 128) (q : tg tx i = some c) (B T : jSt) (L : List Value) {v : Option Value} {st : jS} (hB : B (.ref 98 :: L, hSetI h 98 39 (nI (i + 1))) = some (.inr v, st)) : s_seq (s_if (b_ofi (x_callv 12 f_M_passes (xs_cons (x_aloc 0) (xs_cons (x_c (.int (nI c))) xs_nil)))) B s_skip) T (.ref 98 :: L, h) = some (.inr v, st) := by
  have e := p_yes r hi hc q
  have hs := r.1
  simp (disch := first | assumption | omega) [j_meth, j_out, j_rok, j_pad, lg_sl, s_seq_w, isN_inl, isN_inr, s_if, jb, x_c, x_iloc, x_aloc, x_lloc, x_bin, x_un, o_add, o_sub, o_mul, o_and, o_or, o_xor, o_shl, o_shr, o_ushr, o_max, o_min, o_i2b, o_i2c, o_i2l, o_l2i, x_fld, j_fget, x_idx, j_aget, x_len, j_alen, x_ofb, x_ite, xs_nil, xs_cons, x_callv, x_calls, s_callv, s_calls, j_recv, j_ret, j_retv, b_cmp, b_and, b_or, b_not, b_ofi, b_ite, b_true, s_skip, s_set, j_ty, j_lset, j_kill, s_inc, s_fput, j_fput, s_fop, s_aput, j_aput, j_nar, s_aop, s_ret, s_retv, s_go, s_pop, x_linc, x_finc, Value.category, if_icmp.holds, List.flatMap_cons, List.flatMap_nil, List.length_cons, List.length_append, List.length_nil, List.set_cons_succ, List.set_cons_zero, List.getElem?_cons_succ, List.getElem?_cons_zero, List.replicate, ite_and', ite_or', ite_int', nI_leI, nI_ltI, nI_eq, nI_add, nI_1, pk_mul, nI_clamp, n_in', nI_pos', nI_pos, n_m1e, n_01, n_10, sT_98, sT_99, sT_100, sT_101, sT_102, sT_103, sT_104, sT_105, sT_106, sT_107, sT_108, sT_109, sT_110, sT_111, sT_112, sT_113, sT_114, sT_115, sT_116, sT_117, sT_118, sT_119, sT_120, sT_121, sT_122, sT_123, sT_124, sT_125, sT_126, sT_127, sT_128, sT_129, sT_130, sT_131, sT_132, sT_133, sT_134, sT_135, sT_136, sT_137, sT_138, sT_139, sT_140, sR_98_1, sR_98_4, sR_98_5, sR_98_6, sR_98_7, sR_98_8, sR_98_9, sR_98_10, sR_98_12, sR_98_13, sR_98_14, sR_98_15, sR_98_16, sR_98_17, sR_98_18, sR_98_19, sR_98_20, sR_98_21, sR_98_22, sR_98_23, sR_98_24, sR_98_25, sR_98_26, sR_98_27, sR_98_28, sR_98_29, sR_98_31, sR_98_34, sR_98_35, sR_98_36, sR_98_42, sR_98_44, sR_98_45, sR_98_47, sR_98_49, sR_98_51, sR_98_56, sR_98_58, sR_98_62, sR_98_65, sR_98_66, sR_98_69, e, hB]
/-- what has been read of a CHOICE so far -/
def RCn (C : CH) (h : jHp) : Prop := hI h 98 40 = nI (cMost C) ∧ hI h 98 41 = oI (cMoney C) ∧ RKs (cKeys C) h ∧ (hI h 98 46 = nI (cKeeps C).length ∧ ∀ k, k < (cKeeps C).length → hI h 130 k = nI ((cKeeps C).getD k (0, 0)).1 ∧ hI h 131 k = nI ((cKeeps C).getD k (0, 0)).2) ∧ (hI h 98 48 = nI (cBoths C).length ∧ ∀ k, k < (cBoths C).length → hI h 132 k = nI ((cBoths C).getD k 0)) ∧ (hI h 98 50 = nI (cNevers C).length ∧ ∀ k, k < (cNevers C).length → hI h 133 k = nI ((cNevers C).getD k 0))
def Wln (a k : Nat) : Prop := (a = 98 ∧ 39 ≤ k ∧ k ≤ 50) ∨ (129 ≤ a ∧ a ≤ 133)
theorem RCn_39 {C : CH} {h h' : jHp} (r : RCn C h) (f : Fr W39 h h') : RCn C h' := by
  have e : ∀ a k, ¬ (a = 98 ∧ k = 39) → hI h' a k = hI h a k := fun a k q => Fr_I f q
  obtain ⟨r1, r2, ⟨r3, r4⟩, ⟨r5, r6⟩, ⟨r7, r8⟩, ⟨r9, r10⟩⟩ := r
  exact ⟨by rw [e _ _ (by omega)]; exact r1, by rw [e _ _ (by omega)]; exact r2, ⟨by rw [e _ _ (by omega)]; exact r3, fun k hk => by rw [e _ _ (by omega)]; exact r4 k hk⟩, ⟨by rw [e _ _ (by omega)]; exact r5, fun k hk => by rw [e _ _ (by omega), e _ _ (by omega)]; exact r6 k hk⟩, ⟨by rw [e _ _ (by omega)]; exact r7, fun k hk => by rw [e _ _ (by omega)]; exact r8 k hk⟩, ⟨by rw [e _ _ (by omega)]; exact r9, fun k hk => by rw [e _ _ (by omega)]; exact r10 k hk⟩⟩
def pKs (tx : List Nat) : Nat → Nat → List (Nat × Bool) → Option (List (Nat × Bool)) × Nat
  | 0, i, ks => (some ks, i)
  | n + 1, i, ks => if isPM (tg tx i) then (match pKey tx i with
    | (some k, j) => pKs tx n j (ks ++ [k])
    | (none, j) => (none, j)) else (some ks, i)
def pLin (tx : List Nat) (i : Nat) (C : CH) : Option CH × Nat :=
  if tg tx i = some 113 then (match pNum tx (i + 1) with
    | none => (none, i + 1)
    | some q => (some (q.1, C.2), q.2)) else
  if tg tx i = some 99 then (match pNum tx (i + 1) with
    | none => (none, i + 1)
    | some q => (some (C.1, some q.1, C.2.2), q.2)) else
  if tg tx i = some 114 then (match pKey tx (i + 1) with
    | (none, j) => (none, j)
    | (some k, j) => match pKs tx 4 j [k] with
      | (none, j) => (none, j)
      | (some ks, j) => (some (C.1, C.2.1, ks, C.2.2.2), j)) else
  if tg tx i = some 107 then (match pDig tx 51 (i + 1) with
    | none => (none, i + 1)
    | some k => if tg tx (i + 2) = some 42 then (match pDig tx 57 (i + 3) with
      | none => (none, i + 3)
      | some v => (some (C.1, C.2.1, C.2.2.1, cKeeps C ++ [(k, v)], C.2.2.2.2), i + 4)) else (none, i + 2)) else
  if tg tx i = some 119 then (match pTwo tx 38 (i + 1) with
    | (none, j) => (none, j)
    | (some m, j) => (some (C.1, C.2.1, C.2.2.1, C.2.2.2.1, cBoths C ++ [m], C.2.2.2.2.2), j)) else
  if tg tx i = some 120 then (match pTwo tx 124 (i + 1) with
    | (none, j) => (none, j)
    | (some m, j) => (some (C.1, C.2.1, C.2.2.1, C.2.2.2.1, C.2.2.2.2.1, cNevers C ++ [m]), j)) else (none, i)
theorem e_ln_q {tx : List Nat} {i : Nat} {h : jHp} {C : CH} (r : RP tx i h) (hi : i < 2 ^ 29) (rc : RCn C h) : ∃ h' L, ln_q ([.ref 98, .null, .null], h) = some (.inr (some (.int (nI (if (pNum tx i).isSome then 1 else 0)))), (L, h')) ∧ RP tx (match pNum tx i with
    | none => i
    | some q => q.2) h' ∧ Fr Wln h h' ∧ ∀ q, pNum tx i = some q → RCn (q.1, C.2) h' := by
  obtain ⟨h1, e1, r1, f1⟩ := e_M_number r (by omega)
  have hs := r.1
  have hs1 := r1.1
  have fl : Fr Wln h h1 := Fr_mono f1 (by unfold W39 Wln; intro a k; omega)
  cases c : pNum tx i with
  | none =>
    rw [c] at e1 r1
    refine ⟨h1, [.ref 98, .int (-1), .null], ?_, r1, fl, fun q hq => by cases hq⟩
    simp (disch := first | assumption | omega) [ln_q, j_meth, j_out, j_rok, j_pad, lg_sl, s_seq_w, isN_inl, isN_inr, s_if, jb, x_c, x_iloc, x_aloc, x_lloc, x_bin, x_un, o_add, o_sub, o_mul, o_and, o_or, o_xor, o_shl, o_shr, o_ushr, o_max, o_min, o_i2b, o_i2c, o_i2l, o_l2i, x_fld, j_fget, x_idx, j_aget, x_len, j_alen, x_ofb, x_ite, xs_nil, xs_cons, x_callv, x_calls, s_callv, s_calls, j_recv, j_ret, j_retv, b_cmp, b_and, b_or, b_not, b_ofi, b_ite, b_true, s_skip, s_set, j_ty, j_lset, j_kill, s_inc, s_fput, j_fput, s_fop, s_aput, j_aput, j_nar, s_aop, s_ret, s_retv, s_go, s_pop, x_linc, x_finc, Value.category, if_icmp.holds, List.flatMap_cons, List.flatMap_nil, List.length_cons, List.length_append, List.length_nil, List.set_cons_succ, List.set_cons_zero, List.getElem?_cons_succ, List.getElem?_cons_zero, List.replicate, ite_and', ite_or', ite_int', nI_leI, nI_ltI, nI_eq, nI_add, nI_1, pk_mul, nI_clamp, n_in', nI_pos', nI_pos, n_m1e, n_01, n_10, sT_98, sT_99, sT_100, sT_101, sT_102, sT_103, sT_104, sT_105, sT_106, sT_107, sT_108, sT_109, sT_110, sT_111, sT_112, sT_113, sT_114, sT_115, sT_116, sT_117, sT_118, sT_119, sT_120, sT_121, sT_122, sT_123, sT_124, sT_125, sT_126, sT_127, sT_128, sT_129, sT_130, sT_131, sT_132, sT_133, sT_134, sT_135, sT_136, sT_137, sT_138, sT_139, sT_140, sR_98_1, sR_98_4, sR_98_5, sR_98_6, sR_98_7, sR_98_8, sR_98_9, sR_98_10, sR_98_12, sR_98_13, sR_98_14, sR_98_15, sR_98_16, sR_98_17, sR_98_18, sR_98_19, sR_98_20, sR_98_21, sR_98_22, sR_98_23, sR_98_24, sR_98_25, sR_98_26, sR_98_27, sR_98_28, sR_98_29, sR_98_31, sR_98_34, sR_98_35, sR_98_36, sR_98_42, sR_98_44, sR_98_45, sR_98_47, sR_98_49, sR_98_51, sR_98_56, sR_98_58, sR_98_62, sR_98_65, sR_98_66, sR_98_69, e1, Option.map_none, oI_n]
  | some q =>
    rw [c] at e1 r1
    have hq : q.1 < 1000 := by
      unfold pNum at c
      cases d1 : pDig tx 57 i with
      | none => rw [d1] at c; cases c
      | some a =>
        have ha := (pDig_lt d1).1
        rw [d1] at c
        simp only at c
        cases d2 : pDig tx 57 (i + 1) with
        | none => rw [d2] at c; cases c; simp only; omega
        | some b =>
          have hb := (pDig_lt d2).1
          rw [d2] at c
          simp only at c
          cases d3 : pDig tx 57 (i + 2) with
          | none => rw [d3] at c; cases c; simp only; omega
          | some d =>
            have hd := (pDig_lt d3).1
            rw [d3] at c; cases c; simp only; omega
    have hq1 := n_m1e (n := q.1) (by omega)
    have f2 : Fr (fun a k => a = 98 ∧ k = 40) h1 (hSetI h1 98 40 (nI q.1)) := Fr_set _ ⟨rfl, rfl⟩
    have rc1 := RCn_39 rc f1
    refine ⟨hSetI h1 98 40 (nI q.1), [.ref 98, .int (nI q.1), .null], ?_, RP_fr r1 f2 (by intro a k; omega), Fr_trans fl (Fr_mono f2 (by unfold Wln; intro a k; omega)), fun q' hq' => ?_⟩
    · simp (disch := first | assumption | omega) [ln_q, j_meth, j_out, j_rok, j_pad, lg_sl, s_seq_w, isN_inl, isN_inr, s_if, jb, x_c, x_iloc, x_aloc, x_lloc, x_bin, x_un, o_add, o_sub, o_mul, o_and, o_or, o_xor, o_shl, o_shr, o_ushr, o_max, o_min, o_i2b, o_i2c, o_i2l, o_l2i, x_fld, j_fget, x_idx, j_aget, x_len, j_alen, x_ofb, x_ite, xs_nil, xs_cons, x_callv, x_calls, s_callv, s_calls, j_recv, j_ret, j_retv, b_cmp, b_and, b_or, b_not, b_ofi, b_ite, b_true, s_skip, s_set, j_ty, j_lset, j_kill, s_inc, s_fput, j_fput, s_fop, s_aput, j_aput, j_nar, s_aop, s_ret, s_retv, s_go, s_pop, x_linc, x_finc, Value.category, if_icmp.holds, List.flatMap_cons, List.flatMap_nil, List.length_cons, List.length_append, List.length_nil, List.set_cons_succ, List.set_cons_zero, List.getElem?_cons_succ, List.getElem?_cons_zero, List.replicate, ite_and', ite_or', ite_int', nI_leI, nI_ltI, nI_eq, nI_add, nI_1, pk_mul, nI_clamp, n_in', nI_pos', nI_pos, n_m1e, n_01, n_10, sT_98, sT_99, sT_100, sT_101, sT_102, sT_103, sT_104, sT_105, sT_106, sT_107, sT_108, sT_109, sT_110, sT_111, sT_112, sT_113, sT_114, sT_115, sT_116, sT_117, sT_118, sT_119, sT_120, sT_121, sT_122, sT_123, sT_124, sT_125, sT_126, sT_127, sT_128, sT_129, sT_130, sT_131, sT_132, sT_133, sT_134, sT_135, sT_136, sT_137, sT_138, sT_139, sT_140, sR_98_1, sR_98_4, sR_98_5, sR_98_6, sR_98_7, sR_98_8, sR_98_9, sR_98_10, sR_98_12, sR_98_13, sR_98_14, sR_98_15, sR_98_16, sR_98_17, sR_98_18, sR_98_19, sR_98_20, sR_98_21, sR_98_22, sR_98_23, sR_98_24, sR_98_25, sR_98_26, sR_98_27, sR_98_28, sR_98_29, sR_98_31, sR_98_34, sR_98_35, sR_98_36, sR_98_42, sR_98_44, sR_98_45, sR_98_47, sR_98_49, sR_98_51, sR_98_56, sR_98_58, sR_98_62, sR_98_65, sR_98_66, sR_98_69, e1, Option.map_some, oI_s, hq1]
    · cases hq'
      have e : ∀ a k, ¬ (a = 98 ∧ k = 40) → hI (hSetI h1 98 40 (nI q.1)) a k = hI h1 a k := fun a k z => Fr_I f2 z
      obtain ⟨r1, r2, ⟨r3, r4⟩, ⟨r5, r6⟩, ⟨r7, r8⟩, ⟨r9, r10⟩⟩ := rc1
      exact ⟨by rw [hI_setI, if_pos ⟨rfl, rfl⟩]; rfl, by rw [e _ _ (by omega)]; exact r2, ⟨by rw [e _ _ (by omega)]; exact r3, fun k hk => by rw [e _ _ (by omega)]; exact r4 k hk⟩, ⟨by rw [e _ _ (by omega)]; exact r5, fun k hk => by rw [e _ _ (by omega), e _ _ (by omega)]; exact r6 k hk⟩, ⟨by rw [e _ _ (by omega)]; exact r7, fun k hk => by rw [e _ _ (by omega)]; exact r8 k hk⟩, ⟨by rw [e _ _ (by omega)]; exact r9, fun k hk => by rw [e _ _ (by omega)]; exact r10 k hk⟩⟩
