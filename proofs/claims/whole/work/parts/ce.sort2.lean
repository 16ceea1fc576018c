/-! Standing: sortByRanks, whole -/
/-- ALL is known, and sorted -/
def KNS (A : AS) (h : jHp) : Prop := ∃ fa fl sl ra rl so di qu co, CGr fa fl fa sl ra rl so di qu co h ∧ hI h 77 4 = 1 ∧ (hI h 77 7 = nI (sAllR A).length ∧ (sAllR A).length ≤ fl ∧ ∀ i, i < (sAllR A).length → hI h fa i = nI ((sAllR A).getD i 0)) ∧ hI h 77 5 = 1 ∧ (sAllR A).length ≤ rl ∧ SRT A (sAllR A) ra so h
theorem KNS_St {A : AS} {h : jHp} (k : KNS A h) : CSt A h := by
  obtain ⟨fa, fl, sl, ra, rl, so, di, qu, co, g, k4, ⟨k7, kl, k8⟩, k5, kr, ks⟩ := k
  exact ⟨fa, fl, fa, sl, ra, rl, so, di, qu, co, g, Or.inr ⟨k4, rfl, k7, kl, k8, Or.inr ⟨k5, kr, ks⟩⟩⟩
theorem SRT_mk {A : AS} {l : List Nat} {ra so : Nat} {h : jHp} {s : Nat → Nat} (hs : ∀ k, s k = rkS7 A (l.getD k 0)) (p : ∀ k, k < l.length → hI h so (cP s l.length k) = nI k ∧ hJ h ra (cP s l.length k) = Int64.ofNat (rkN A (l.getD k 0))) : SRT A l ra so h := by
  have hex : ∃ σ : Nat → Nat, ∀ i, i < l.length → σ i < l.length ∧ cP s l.length (σ i) = i := by
    refine ⟨fun i => if hi : i < l.length then Classical.choose (cP_sur (s := s) hi) else 0, fun i hi => ?_⟩
    simp only [hi, dif_pos]
    exact Classical.choose_spec (cP_sur (s := s) hi)
  obtain ⟨σ, hσ⟩ := hex
  refine ⟨σ, fun i hi => ?_, fun i j hi hj e => ?_, fun i j hi hj hij => ?_⟩
  · obtain ⟨s1, s2⟩ := hσ i hi
    obtain ⟨p1, p2⟩ := p _ s1
    rw [s2] at p1 p2
    exact ⟨s1, p1, p2⟩
  · rw [← (hσ i hi).2, ← (hσ j hj).2, e]
  · apply Nat.le_of_not_lt
    intro hlt
    rw [← hs, ← hs] at hlt
    have := cP_ord (hσ j hj).1 hlt
    rw [(hσ j hj).2, (hσ i hi).2] at this
    omega
noncomputable def sr_0 : jSt := (s_if (b_ofi (x_fld 9 0 5 (x_aloc 0))) s_retv s_skip)
noncomputable def sr_1 : jSt := (s_callv 9 f_St_makeRoom (xs_cons (x_aloc 0) xs_nil))
noncomputable def sr_2 : jSt := (s_calls f_J_fill (xs_cons (x_fld 9 1 14 (x_aloc 0)) (xs_cons (x_c (.int (nI 0))) xs_nil)))
noncomputable def sr_3 : jSt := (s_seq (s_set 0 1 (x_c (.int (nI 0)))) (s_loop 1 2 (lc_St_sortByRanks_1) (lb_St_sortByRanks_1) (lu_St_sortByRanks_1)))
noncomputable def sr_4 : jSt := (s_seq (s_set 0 1 (x_c (.int (nI 1)))) (s_loop 3 4 (lc_St_sortByRanks_2) (lb_St_sortByRanks_2) (lu_St_sortByRanks_2)))
noncomputable def sr_5 : jSt := (s_seq (s_set 0 1 (x_c (.int (nI 0)))) (s_loop 5 6 (lc_St_sortByRanks_3) (lb_St_sortByRanks_3) (lu_St_sortByRanks_3)))
noncomputable def sr_6 : jSt := (s_fput 9 0 1 5 (x_aloc 0) (x_c (.int (nI 1))))
noncomputable def sr_7 : jSt := s_retv
theorem St_sortByRanks_s : f_St_sortByRanks = j_meth 0 5 (s_seq sr_0 (s_seq sr_1 (s_seq sr_2 (s_seq sr_3 (s_seq sr_4 (s_seq sr_5 (s_seq sr_6 sr_7))))))) := rfl
theorem isG_ne {a : Nat} (h : isG a) : (a ≠ 0 ∧ a ≠ 83 ∧ a ≠ 77 ∧ 72 ≤ a ∧ a ≠ 73) ∧ okG a ∧ a ≠ 90 ∧ a ≠ 91 := by
  unfold isG at h
  unfold okG
  omega
theorem g_bnd {fl : Nat} (h : ∃ i, i ≤ 8 ∧ fl = 64 * 2 ^ i) : fl ≤ 524288 := by
  obtain ⟨i, hi, rfl⟩ := h
  have hb : (64 * 2 ^ i) ≤ 64 * 2 ^ 8 := Nat.mul_le_mul_left _ (Nat.pow_le_pow_right (by decide) hi)
  omega
theorem sr_run {h h1 h2 h3 h4 h5 : jHp} {LL : Nat} {st : List Value} (hs : Shape h) (hs1 : Shape h1) (hs5 : Shape h5) (k5 : hI h 77 5 = 0) (e1 : f_St_makeRoom [.ref 77] h = some (none, h1)) (e2 : f_J_fill [.ref 83, .int (nI 0)] h1 = some (none, h2))
    (e3 : s_loop 1 2 lc_St_sortByRanks_1 lb_St_sortByRanks_1 lu_St_sortByRanks_1 ([.ref 77, .int (nI 0), .null, .null, .null], h2) = some (.inl 0, ([.ref 77, .int (nI LL), .null, .null, .null], h3)))
    (e4 : s_loop 3 4 lc_St_sortByRanks_2 lb_St_sortByRanks_2 lu_St_sortByRanks_2 ([.ref 77, .int (nI 1), .null, .null, .null], h3) = some (.inl 0, ([.ref 77, .int (nI 128), .null, .null, .null], h4)))
    (e5 : s_loop 5 6 lc_St_sortByRanks_3 lb_St_sortByRanks_3 lu_St_sortByRanks_3 ([.ref 77, .int (nI 0), .null, .null, .null], h4) = some (.inl 0, (.ref 77 :: st, h5))) : f_St_sortByRanks [.ref 77] h = some (none, hSetI h5 77 5 1) := by
  rw [St_sortByRanks_s]
  have t77 := sT_77 hs
  have u1 := sT_77 hs1
  have r1 := sR_77_14 hs1
  have u5 := sT_77 hs5
  have a0 : sr_0 ([.ref 77, .null, .null, .null, .null], h) = some (.inl 0, ([.ref 77, .null, .null, .null, .null], h)) := by
    simp (disch := first | assumption | omega) [sr_0, j_meth, j_out, j_rok, j_pad, lg_sl, s_seq_w, isN_inl, isN_inr, s_if, jb, x_c, x_iloc, x_aloc, x_lloc, x_bin, x_un, o_add, o_sub, o_mul, o_and, o_or, o_xor, o_shl, o_shr, o_ushr, o_max, o_min, o_i2b, o_i2c, o_i2l, o_l2i, x_fld, j_fget, x_idx, j_aget, x_len, j_alen, x_ofb, x_ite, xs_nil, xs_cons, x_callv, x_calls, s_callv, s_calls, j_recv, j_ret, j_retv, b_cmp, b_and, b_or, b_not, b_ofi, b_ite, b_true, s_skip, s_set, j_ty, j_lset, j_kill, s_inc, s_fput, j_fput, s_fop, s_aput, j_aput, j_nar, s_aop, s_ret, s_retv, s_go, s_pop, x_linc, x_finc, Value.category, if_icmp.holds, List.flatMap_cons, List.flatMap_nil, List.length_cons, List.length_append, List.length_nil, List.set_cons_succ, List.set_cons_zero, List.getElem?_cons_succ, List.getElem?_cons_zero, List.replicate, t77, k5]
  have a1 : sr_1 ([.ref 77, .null, .null, .null, .null], h) = some (.inl 0, ([.ref 77, .null, .null, .null, .null], h1)) := by
    simp (disch := first | assumption | omega) [sr_1, j_meth, j_out, j_rok, j_pad, lg_sl, s_seq_w, isN_inl, isN_inr, s_if, jb, x_c, x_iloc, x_aloc, x_lloc, x_bin, x_un, o_add, o_sub, o_mul, o_and, o_or, o_xor, o_shl, o_shr, o_ushr, o_max, o_min, o_i2b, o_i2c, o_i2l, o_l2i, x_fld, j_fget, x_idx, j_aget, x_len, j_alen, x_ofb, x_ite, xs_nil, xs_cons, x_callv, x_calls, s_callv, s_calls, j_recv, j_ret, j_retv, b_cmp, b_and, b_or, b_not, b_ofi, b_ite, b_true, s_skip, s_set, j_ty, j_lset, j_kill, s_inc, s_fput, j_fput, s_fop, s_aput, j_aput, j_nar, s_aop, s_ret, s_retv, s_go, s_pop, x_linc, x_finc, Value.category, if_icmp.holds, List.flatMap_cons, List.flatMap_nil, List.length_cons, List.length_append, List.length_nil, List.set_cons_succ, List.set_cons_zero, List.getElem?_cons_succ, List.getElem?_cons_zero, List.replicate, t77, e1]
  have a2 : sr_2 ([.ref 77, .null, .null, .null, .null], h1) = some (.inl 0, ([.ref 77, .null, .null, .null, .null], h2)) := by
    simp (disch := first | assumption | omega) [sr_2, j_meth, j_out, j_rok, j_pad, lg_sl, s_seq_w, isN_inl, isN_inr, s_if, jb, x_c, x_iloc, x_aloc, x_lloc, x_bin, x_un, o_add, o_sub, o_mul, o_and, o_or, o_xor, o_shl, o_shr, o_ushr, o_max, o_min, o_i2b, o_i2c, o_i2l, o_l2i, x_fld, j_fget, x_idx, j_aget, x_len, j_alen, x_ofb, x_ite, xs_nil, xs_cons, x_callv, x_calls, s_callv, s_calls, j_recv, j_ret, j_retv, b_cmp, b_and, b_or, b_not, b_ofi, b_ite, b_true, s_skip, s_set, j_ty, j_lset, j_kill, s_inc, s_fput, j_fput, s_fop, s_aput, j_aput, j_nar, s_aop, s_ret, s_retv, s_go, s_pop, x_linc, x_finc, Value.category, if_icmp.holds, List.flatMap_cons, List.flatMap_nil, List.length_cons, List.length_append, List.length_nil, List.set_cons_succ, List.set_cons_zero, List.getElem?_cons_succ, List.getElem?_cons_zero, List.replicate, u1, r1, e2]
  have a3 : sr_3 ([.ref 77, .null, .null, .null, .null], h2) = some (.inl 0, ([.ref 77, .int (nI LL), .null, .null, .null], h3)) := by
    simp (disch := first | assumption | omega) [sr_3, j_meth, j_out, j_rok, j_pad, lg_sl, s_seq_w, isN_inl, isN_inr, s_if, jb, x_c, x_iloc, x_aloc, x_lloc, x_bin, x_un, o_add, o_sub, o_mul, o_and, o_or, o_xor, o_shl, o_shr, o_ushr, o_max, o_min, o_i2b, o_i2c, o_i2l, o_l2i, x_fld, j_fget, x_idx, j_aget, x_len, j_alen, x_ofb, x_ite, xs_nil, xs_cons, x_callv, x_calls, s_callv, s_calls, j_recv, j_ret, j_retv, b_cmp, b_and, b_or, b_not, b_ofi, b_ite, b_true, s_skip, s_set, j_ty, j_lset, j_kill, s_inc, s_fput, j_fput, s_fop, s_aput, j_aput, j_nar, s_aop, s_ret, s_retv, s_go, s_pop, x_linc, x_finc, Value.category, if_icmp.holds, List.flatMap_cons, List.flatMap_nil, List.length_cons, List.length_append, List.length_nil, List.set_cons_succ, List.set_cons_zero, List.getElem?_cons_succ, List.getElem?_cons_zero, List.replicate, e3]
  have a4 : sr_4 ([.ref 77, .int (nI LL), .null, .null, .null], h3) = some (.inl 0, ([.ref 77, .int (nI 128), .null, .null, .null], h4)) := by
    simp (disch := first | assumption | omega) [sr_4, j_meth, j_out, j_rok, j_pad, lg_sl, s_seq_w, isN_inl, isN_inr, s_if, jb, x_c, x_iloc, x_aloc, x_lloc, x_bin, x_un, o_add, o_sub, o_mul, o_and, o_or, o_xor, o_shl, o_shr, o_ushr, o_max, o_min, o_i2b, o_i2c, o_i2l, o_l2i, x_fld, j_fget, x_idx, j_aget, x_len, j_alen, x_ofb, x_ite, xs_nil, xs_cons, x_callv, x_calls, s_callv, s_calls, j_recv, j_ret, j_retv, b_cmp, b_and, b_or, b_not, b_ofi, b_ite, b_true, s_skip, s_set, j_ty, j_lset, j_kill, s_inc, s_fput, j_fput, s_fop, s_aput, j_aput, j_nar, s_aop, s_ret, s_retv, s_go, s_pop, x_linc, x_finc, Value.category, if_icmp.holds, List.flatMap_cons, List.flatMap_nil, List.length_cons, List.length_append, List.length_nil, List.set_cons_succ, List.set_cons_zero, List.getElem?_cons_succ, List.getElem?_cons_zero, List.replicate, e4]
  have a5 : sr_5 ([.ref 77, .int (nI 128), .null, .null, .null], h4) = some (.inl 0, (.ref 77 :: st, h5)) := by
    simp (disch := first | assumption | omega) [sr_5, j_meth, j_out, j_rok, j_pad, lg_sl, s_seq_w, isN_inl, isN_inr, s_if, jb, x_c, x_iloc, x_aloc, x_lloc, x_bin, x_un, o_add, o_sub, o_mul, o_and, o_or, o_xor, o_shl, o_shr, o_ushr, o_max, o_min, o_i2b, o_i2c, o_i2l, o_l2i, x_fld, j_fget, x_idx, j_aget, x_len, j_alen, x_ofb, x_ite, xs_nil, xs_cons, x_callv, x_calls, s_callv, s_calls, j_recv, j_ret, j_retv, b_cmp, b_and, b_or, b_not, b_ofi, b_ite, b_true, s_skip, s_set, j_ty, j_lset, j_kill, s_inc, s_fput, j_fput, s_fop, s_aput, j_aput, j_nar, s_aop, s_ret, s_retv, s_go, s_pop, x_linc, x_finc, Value.category, if_icmp.holds, List.flatMap_cons, List.flatMap_nil, List.length_cons, List.length_append, List.length_nil, List.set_cons_succ, List.set_cons_zero, List.getElem?_cons_succ, List.getElem?_cons_zero, List.replicate, e5]
  have h11 : nI 1 = 1 := rfl
  generalize hh6 : hSetI h5 77 5 1 = h6
  have a6 : sr_6 (.ref 77 :: st, h5) = some (.inl 0, (.ref 77 :: st, h6)) := by
    simp (disch := first | assumption | omega) [sr_6, j_meth, j_out, j_rok, j_pad, lg_sl, s_seq_w, isN_inl, isN_inr, s_if, jb, x_c, x_iloc, x_aloc, x_lloc, x_bin, x_un, o_add, o_sub, o_mul, o_and, o_or, o_xor, o_shl, o_shr, o_ushr, o_max, o_min, o_i2b, o_i2c, o_i2l, o_l2i, x_fld, j_fget, x_idx, j_aget, x_len, j_alen, x_ofb, x_ite, xs_nil, xs_cons, x_callv, x_calls, s_callv, s_calls, j_recv, j_ret, j_retv, b_cmp, b_and, b_or, b_not, b_ofi, b_ite, b_true, s_skip, s_set, j_ty, j_lset, j_kill, s_inc, s_fput, j_fput, s_fop, s_aput, j_aput, j_nar, s_aop, s_ret, s_retv, s_go, s_pop, x_linc, x_finc, Value.category, if_icmp.holds, List.flatMap_cons, List.flatMap_nil, List.length_cons, List.length_append, List.length_nil, List.set_cons_succ, List.set_cons_zero, List.getElem?_cons_succ, List.getElem?_cons_zero, List.replicate, u5, h11, hh6]
  have a7 : sr_7 (.ref 77 :: st, h6) = some (.inr none, (.ref 77 :: st, h6)) := rfl
  simp (disch := first | assumption | omega) [j_meth, j_out, j_rok, j_pad, lg_sl, s_seq_w, isN_inl, isN_inr, s_if, jb, x_c, x_iloc, x_aloc, x_lloc, x_bin, x_un, o_add, o_sub, o_mul, o_and, o_or, o_xor, o_shl, o_shr, o_ushr, o_max, o_min, o_i2b, o_i2c, o_i2l, o_l2i, x_fld, j_fget, x_idx, j_aget, x_len, j_alen, x_ofb, x_ite, xs_nil, xs_cons, x_callv, x_calls, s_callv, s_calls, j_recv, j_ret, j_retv, b_cmp, b_and, b_or, b_not, b_ofi, b_ite, b_true, s_skip, s_set, j_ty, j_lset, j_kill, s_inc, s_fput, j_fput, s_fop, s_aput, j_aput, j_nar, s_aop, s_ret, s_retv, s_go, s_pop, x_linc, x_finc, Value.category, if_icmp.holds, List.flatMap_cons, List.flatMap_nil, List.length_cons, List.length_append, List.length_nil, List.set_cons_succ, List.set_cons_zero, List.getElem?_cons_succ, List.getElem?_cons_zero, List.replicate, a0, a1, a2, a3, a4, a5, a6, a7]
theorem sr_rel {A : AS} {tx : List Nat} {rw : List Int32} {h h1 h5 : jHp} (r : RC A tx rw h) {fa fl sl ra rl so di qu co : Nat} (g1 : CGr fa fl fa sl ra rl so di qu co h1) (F1 : FG (fun _ _ => False) (fun _ _ => False) h h1) (S1 : hS h ≤ hS h1) (N1 : hN h1 + pot h ≤ hN h + pot h1) (P1 : hS h1 + pot h ≤ hS h + pot h1) (q4 : hI h1 77 4 = 1) (hn1 : (sAllR A).length ≤ rl) (f15 : SFr so ra h1 h5) (rd5 : SRd A fa fl ra rl so h5) (c5 : ∀ k, k < (sAllR A).length → hI h5 so (cP (sm A) (sAllR A).length k) = nI k ∧ hJ h5 ra (cP (sm A) (sAllR A).length k) = Int64.ofNat (rkN A ((sAllR A).getD k 0))) : RC A tx rw (hSetI h5 77 5 1) ∧ FC h (hSetI h5 77 5 1) ∧ KNS A (hSetI h5 77 5 1) := by
  have hs := r.1.1.1
  have iso := isG_ne g1.2.1.2.2.2.1
  have ira := isG_ne g1.2.1.2.2.1
  have ifa := isG_ne g1.2.1.1
  generalize hh6 : hSetI h5 77 5 1 = h6
  have I6 : ∀ a k, hI h6 a k = if a = 77 ∧ k = 5 then 1 else hI h5 a k := fun a k => by rw [← hh6, hI_setI]
  have J6 : hJ h6 = hJ h5 := by rw [← hh6]; rfl
  have R6 : hR h6 = hR h1 := by rw [← hh6]; exact f15.1.2.1
  have T6 : hT h6 = hT h1 := by rw [← hh6]; exact f15.1.1
  have N6 : hN h6 = hN h1 := by rw [← hh6]; exact f15.1.2.2.1
  have S6 : hS h6 = hS h1 := by rw [← hh6]; exact f15.1.2.2.2
  have P6 : pot h6 = pot h1 := by unfold pot; rw [R6, T6]
  have F6 : FG (fun a _ => a = 83 ∨ a = so ∨ a = 77) (Usr ra) h h6 := by
    refine FG_trans (FG_trans (FG_mono F1 (fun a j _ q => q.elim) (fun a j _ q => q.elim)) (FG_mono (SFr_FG f15) (fun a j _ q => q.elim Or.inl fun z => Or.inr (Or.inl z)) (fun a j _ q => q))) (FG_Fr (W := fun a _ => a = 83 ∨ a = so ∨ a = 77) ?_)
    rw [← hh6]
    exact Fr_set _ (Or.inr (Or.inr rfl))
  have kns : KNS A h6 := by
    refine ⟨fa, fl, sl, ra, rl, so, di, qu, co, ?_, ?_, ⟨?_, rd5.2.2.2.2.2.1.1, fun i hi => ?_⟩, ?_, hn1, ?_⟩
    · unfold CGr
      rw [R6, T6, N6]
      exact g1
    · rw [I6, if_neg (fun q => absurd q.2 (by decide)), f15.2.1 _ _ (by decide) (fun q => iso.1.2.2.1 q.symm)]; exact q4
    · rw [I6, if_neg (fun q => absurd q.2 (by decide))]; exact rd5.2.2.2.2.1
    · rw [I6, if_neg (fun q => ifa.1.2.2.1 q.1)]; exact rd5.2.2.2.2.2.2.2 i hi
    · rw [I6, if_pos ⟨rfl, rfl⟩]
    · refine SRT_mk (s := sm A) (fun k => rfl) fun k hk => ?_
      rw [I6, if_neg (fun q => iso.1.2.2.1 q.1), J6]
      exact c5 k hk
  have hW : ∀ (a j : Nat), (a = 83 ∨ a = so ∨ a = 77) → okG a ∧ a ≠ 90 ∧ a ≠ 91 := fun a _ q => by
    rcases q with q | q | q
    · rw [q]; unfold okG; decide
    · rw [q]; exact iso.2
    · rw [q]; unfold okG; decide
  exact ⟨RC_g r F6 (fun a j q => (hW a j q).1) (CRw_g hs r.2.2.2.2.1 F6 fun a j q => (hW a j q).2) (KNS_St kns), FC_g F6 hs (fun a j q => (hW a j q).1) (fun a j q => by unfold Usr at q; rw [q]; exact ira.2.1) (by rw [S6]; exact S1) (by rw [N6, P6]; exact N1) (by rw [S6, P6]; exact P1), kns⟩
theorem e_St_sort {A : AS} {tx : List Nat} {rw : List Int32} {h : jHp} (r : RC A tx rw h) (k : KNW A h) : ∃ h', f_St_sortByRanks [.ref 77] h = some (none, h') ∧ RC A tx rw h' ∧ FC h h' ∧ KNS A h' := by
  have mk := r.1
  have hs := mk.1.1
  have w := mk.1.2.1
  have t77 := sT_77 hs
  obtain ⟨fa, fl, sl, ra, rl, so, di, qu, co, g, k4, c⟩ := k
  rcases c with c | ⟨-, -, k7, kl, k8, c⟩
  · rw [k4] at c; cases c
  have h10 : ((1 : Int32) = 0) = False := by decide
  rcases c with k5 | ⟨k5, kr, ks⟩
  case inr =>
    refine ⟨h, ?_, r, FC_refl h, fa, fl, sl, ra, rl, so, di, qu, co, g, k4, ⟨k7, kl, k8⟩, k5, kr, ks⟩
    rw [St_sortByRanks_s]
    have e0 : sr_0 ([.ref 77, .null, .null, .null, .null], h) = some (.inr none, ([.ref 77, .null, .null, .null, .null], h)) := by
      simp (disch := first | assumption | omega) [sr_0, j_meth, j_out, j_rok, j_pad, lg_sl, s_seq_w, isN_inl, isN_inr, s_if, jb, x_c, x_iloc, x_aloc, x_lloc, x_bin, x_un, o_add, o_sub, o_mul, o_and, o_or, o_xor, o_shl, o_shr, o_ushr, o_max, o_min, o_i2b, o_i2c, o_i2l, o_l2i, x_fld, j_fget, x_idx, j_aget, x_len, j_alen, x_ofb, x_ite, xs_nil, xs_cons, x_callv, x_calls, s_callv, s_calls, j_recv, j_ret, j_retv, b_cmp, b_and, b_or, b_not, b_ofi, b_ite, b_true, s_skip, s_set, j_ty, j_lset, j_kill, s_inc, s_fput, j_fput, s_fop, s_aput, j_aput, j_nar, s_aop, s_ret, s_retv, s_go, s_pop, x_linc, x_finc, Value.category, if_icmp.holds, List.flatMap_cons, List.flatMap_nil, List.length_cons, List.length_append, List.length_nil, List.set_cons_succ, List.set_cons_zero, List.getElem?_cons_succ, List.getElem?_cons_zero, List.replicate, t77, k5, h10]
    simp (disch := first | assumption | omega) [j_meth, j_out, j_rok, j_pad, lg_sl, s_seq_w, isN_inl, isN_inr, s_if, jb, x_c, x_iloc, x_aloc, x_lloc, x_bin, x_un, o_add, o_sub, o_mul, o_and, o_or, o_xor, o_shl, o_shr, o_ushr, o_max, o_min, o_i2b, o_i2c, o_i2l, o_l2i, x_fld, j_fget, x_idx, j_aget, x_len, j_alen, x_ofb, x_ite, xs_nil, xs_cons, x_callv, x_calls, s_callv, s_calls, j_recv, j_ret, j_retv, b_cmp, b_and, b_or, b_not, b_ofi, b_ite, b_true, s_skip, s_set, j_ty, j_lset, j_kill, s_inc, s_fput, j_fput, s_fop, s_aput, j_aput, j_nar, s_aop, s_ret, s_retv, s_go, s_pop, x_linc, x_finc, Value.category, if_icmp.holds, List.flatMap_cons, List.flatMap_nil, List.length_cons, List.length_append, List.length_nil, List.set_cons_succ, List.set_cons_zero, List.getElem?_cons_succ, List.getElem?_cons_zero, List.replicate, e0]
  have bfa : fa < hN h := g.2.2.1.1
  obtain ⟨h1, ra1, rl1, so1, di1, qu1, co1, e1, g1, hn1, F1, S1, N1, P1⟩ := e_St_makeRoom hs g k7 kl
  have hs1 := FG_shape hs F1
  have mk1 : MK A h1 := MK_g mk F1 fun a j q => q.elim
  have h142 := hs.2.2
  have h77 : 77 < hN h := Nat.lt_of_lt_of_le (by decide) h142
  have iso := isG_ne g1.2.1.2.2.2.1
  have ira := isG_ne g1.2.1.2.2.1
  have ifa := isG_ne g1.2.1.1
  have bl := g_bnd g1.2.2.2.2.1
  have br := g_bnd g1.2.2.2.2.2
  have q7 : hI h1 77 7 = nI (sAllR A).length := by rw [F1.2.2.1 _ _ h77 (fun q => q)]; exact k7
  have q4 : hI h1 77 4 = 1 := by rw [F1.2.2.1 _ _ h77 (fun q => q)]; exact k4
  have rd1 : SRd A fa fl ra1 rl1 so1 h1 := ⟨mk1, ⟨g1.1.2.2.1, g1.1.2.1, ifa.1.1⟩, ⟨g1.1.2.2.2.2.1, g1.1.2.2.2.2.2.1, ira.1.1⟩, ⟨g1.1.2.2.2.2.2.2.1, g1.1.2.2.2.2.2.2.2.1, iso.1.1⟩, q7, ⟨kl, Nat.lt_of_le_of_lt bl (by decide), hn1, Nat.lt_of_le_of_lt br (by decide)⟩, ⟨g1.2.2.2.1.1, iso.1.2.1, ifa.1.2.1, iso.1.2.2.1, iso.1.2.2.2.1⟩, fun i hi => by rw [F1.2.2.1 _ _ bfa (fun q => q)]; exact k8 i hi⟩
  obtain ⟨h2, e2, f2, c2⟩ := e_J_fill (nI 0) (sT_83 hs1) (by decide) (by decide)
  have f2 : SFr so1 ra1 h1 h2 := SFr_83 f2
  have rd2 := SRd_f rd1 f2
  obtain ⟨h3, e3, f3, c3⟩ := e_sr_1 rd2 c2 .null .null .null
  have rd3 := SRd_f rd2 f3
  obtain ⟨h4, e4, f4, c4⟩ := e_sr_2 (so := so1) (ra := ra1) rd3.1.1.1 w c3 .null .null .null
  have rd4 := SRd_f rd3 f4
  obtain ⟨h5, st, e5, f5, c5⟩ := e_sr_3 rd4 c4
  have rd5 := SRd_f rd4 f5
  obtain ⟨z1, z2, z3⟩ := sr_rel r g1 F1 S1 N1 P1 q4 hn1 (SFr_trans (SFr_trans (SFr_trans f2 f3) f4) f5) rd5 c5
  exact ⟨_, sr_run hs hs1 rd5.1.1.1 k5 e1 e2 e3 e4 e5, z1, z2, z3⟩
