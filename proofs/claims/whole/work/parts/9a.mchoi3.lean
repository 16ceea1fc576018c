def C0 : CH := (8, none, [], [], [], [])
def vChoice (A : AS) (tx : List Nat) (x : Int32) : Int32 × AS := if j_in x (aNo A) then (match pAl tx 21 0 C0 0 with
  | (some q, _) => (nI q.2, aChoi A x.toNatClampNeg q.1)
  | (none, j) => (-1 - nI j, A)) else (-100, A)
def Wc0 (a k : Nat) : Prop := (a = 98 ∧ (k = 30 ∨ k = 33 ∨ (38 ≤ k ∧ k ≤ 50))) ∨ (129 ≤ a ∧ a ≤ 133)
theorem Wln_c0 : ∀ a k, Wln a k → Wc0 a k := by unfold Wln Wc0; intro a k; omega
theorem c0_fin {A : AS} {tx : List Nat} {rw : List Int32} {h h1 : jHp} (r : RMX A tx rw h) (f : Fr Wc0 h h1) (c30 : hI h1 98 30 = nI 0) : RMX A [] rw h1 ∧ Fr WM h h1 :=
  ⟨⟨RMK_fr r.1 f (by unfold cM Wc0; intro a k; omega), RMT_fr r.2.1 f (by unfold Wc0; intro a k; omega), ⟨⟨by simp, fun x hx => by cases hx⟩, c30, fun i hi => by simp at hi⟩, RRw_eq r.2.2.2.1 (Fr_I f (by unfold Wc0; omega)) (fun k => Fr_I f (by unfold Wc0; omega)), ROf0_eq r.2.2.2.2 (fun k hk => Fr_I f (by unfold Wc0; omega))⟩, Fr_mono f (by unfold Wc0 WM; intro a k; omega)⟩
theorem CHk_ok {C : CH} {n : Nat} (h : CHk C n) (hn : n ≤ 30) : CHok C := by
  obtain ⟨b1, b2, b3, b4, b5, b6, b7, b8, b9, b10⟩ := h
  exact ⟨b1, b2, b3, b4, by omega, b6, by omega, b8, by omega, b10⟩
theorem WF_choi {A : AS} (w : WF A) {f : Nat} {C : CH} (hf : f < aNo A) (hC : CHok C) : WF (aChoi A f C) := by
  refine WF_ch w rfl rfl rfl rfl rfl rfl fun g => ?_
  show (aNo A ≤ g → updN (aCh A) f (some C) g = none) ∧ ∀ D, updN (aCh A) f (some C) g = some D → CHok D
  by_cases e : g = f
  · subst e
    rw [updN_eq]
    exact ⟨fun q => by omega, fun D hD => by cases hD; exact hC⟩
  · rw [updN_ne _ _ e]
    exact w.2.2.2.2.2.1 g
def hC0 (h : jHp) : jHp := hSetI (hSetI (hSetI (hSetI (hSetI (hSetI (hSetI h 98 39 (nI 0)) 98 40 (nI 8)) 98 41 (-1)) 98 43 (nI 0)) 98 46 (nI 0)) 98 48 (nI 0)) 98 50 (nI 0)
theorem e_chT0 {h : jHp} (hs : Shape h) (f : Int32) : chT0 ([.ref 98, .int f, .null, .null], h) = chT1 ([.ref 98, .int f, .null, .null], hC0 h) := by
  unfold hC0
  have s1 : Shape (hSetI h 98 39 (nI 0)) := Fr_shape (W := fun _ _ => True) hs (Fr_set _ trivial)
  generalize g1 : hSetI h 98 39 (nI 0) = h1 at *
  have s2 : Shape (hSetI h1 98 40 (nI 8)) := Fr_shape (W := fun _ _ => True) s1 (Fr_set _ trivial)
  generalize g2 : hSetI h1 98 40 (nI 8) = h2 at *
  have s3 : Shape (hSetI h2 98 41 (-1)) := Fr_shape (W := fun _ _ => True) s2 (Fr_set _ trivial)
  generalize g3 : hSetI h2 98 41 (-1) = h3 at *
  have s4 : Shape (hSetI h3 98 43 (nI 0)) := Fr_shape (W := fun _ _ => True) s3 (Fr_set _ trivial)
  generalize g4 : hSetI h3 98 43 (nI 0) = h4 at *
  have s5 : Shape (hSetI h4 98 46 (nI 0)) := Fr_shape (W := fun _ _ => True) s4 (Fr_set _ trivial)
  generalize g5 : hSetI h4 98 46 (nI 0) = h5 at *
  have s6 : Shape (hSetI h5 98 48 (nI 0)) := Fr_shape (W := fun _ _ => True) s5 (Fr_set _ trivial)
  generalize g6 : hSetI h5 98 48 (nI 0) = h6 at *
  simp (disch := first | assumption | omega) [chT0, j_meth, j_out, j_rok, j_pad, lg_sl, s_seq_w, isN_inl, isN_inr, s_if, jb, x_c, x_iloc, x_aloc, x_lloc, x_bin, x_un, o_add, o_sub, o_mul, o_and, o_or, o_xor, o_shl, o_shr, o_ushr, o_max, o_min, o_i2b, o_i2c, o_i2l, o_l2i, x_fld, j_fget, x_idx, j_aget, x_len, j_alen, x_ofb, x_ite, xs_nil, xs_cons, x_callv, x_calls, s_callv, s_calls, j_recv, j_ret, j_retv, b_cmp, b_and, b_or, b_not, b_ofi, b_ite, b_true, s_skip, s_set, j_ty, j_lset, j_kill, s_inc, s_fput, j_fput, s_fop, s_aput, j_aput, j_nar, s_aop, s_ret, s_retv, s_go, s_pop, x_linc, x_finc, Value.category, if_icmp.holds, List.flatMap_cons, List.flatMap_nil, List.length_cons, List.length_append, List.length_nil, List.set_cons_succ, List.set_cons_zero, List.getElem?_cons_succ, List.getElem?_cons_zero, List.replicate, ite_and', ite_or', ite_int', nI_leI, nI_ltI, nI_eq, nI_add, nI_1, pk_mul, nI_clamp, n_in', nI_pos', nI_pos, n_m1e, n_01, n_10, sT_98, sT_99, sT_100, sT_101, sT_102, sT_103, sT_104, sT_105, sT_106, sT_107, sT_108, sT_109, sT_110, sT_111, sT_112, sT_113, sT_114, sT_115, sT_116, sT_117, sT_118, sT_119, sT_120, sT_121, sT_122, sT_123, sT_124, sT_125, sT_126, sT_127, sT_128, sT_129, sT_130, sT_131, sT_132, sT_133, sT_134, sT_135, sT_136, sT_137, sT_138, sT_139, sT_140, sR_98_1, sR_98_4, sR_98_5, sR_98_6, sR_98_7, sR_98_8, sR_98_9, sR_98_10, sR_98_12, sR_98_13, sR_98_14, sR_98_15, sR_98_16, sR_98_17, sR_98_18, sR_98_19, sR_98_20, sR_98_21, sR_98_22, sR_98_23, sR_98_24, sR_98_25, sR_98_26, sR_98_27, sR_98_28, sR_98_29, sR_98_31, sR_98_34, sR_98_35, sR_98_36, sR_98_42, sR_98_44, sR_98_45, sR_98_47, sR_98_49, sR_98_51, sR_98_56, sR_98_58, sR_98_62, sR_98_65, sR_98_66, sR_98_69, g1, g2, g3, g4, g5, g6]
theorem e_chR {tx : List Nat} {h : jHp} {f : Nat} (rp : RP tx 0 h) (rc : RCn C0 h) {o : Option (CH × Nat)} {j : Nat} (hP : pAl tx 21 0 C0 0 = (o, j)) :
    ∃ h', RP tx j h' ∧ Fr Wln h h' ∧ ((o = none ∧ j_out 1 (chT1 ([.ref 98, .int (nI f), .null, .null], h)) = some (some (.int (-1 - nI j)), h')) ∨ ∃ q, o = some q ∧ j_out 1 (chT1 ([.ref 98, .int (nI f), .null, .null], h)) = j_out 1 (chT2 ([.ref 98, .int (nI f), .int (nI q.2), .null], h')) ∧ RCn q.1 h' ∧ CHk q.1 21) := by
  have ck4 : CHk C0 0 := ⟨by decide, fun m hm => (by cases hm), by decide, fun k hk => (by cases hk), by decide, fun k hk => (by cases hk), by decide, fun k hk => (by cases hk), by decide, fun k hk => (by cases hk)⟩
  obtain ⟨h5, v, rp5, f5, g5⟩ := e_ch_do (tx := tx) (f := nI f) 21 0 h C0 0 (by omega) (by omega) (by omega) ck4 rp rc
  rw [hP] at rp5 g5
  simp only at rp5 g5
  have hs5 := rp5.1
  have c39 := rp5.2.2.2.1
  have c38 := rp5.2.2.1
  have hl := rp5.2.1.1
  refine ⟨h5, rp5, f5, ?_⟩
  cases o with
  | none =>
    left
    refine ⟨rfl, ?_⟩
    simp only at g5
    rcases g5 with g | ⟨g, hlt⟩ | ⟨k', g⟩
    · simp only [nI_0] at g
      simp (disch := first | assumption | omega) [chT1, j_meth, j_out, j_rok, j_pad, lg_sl, s_seq_w, isN_inl, isN_inr, s_if, jb, x_c, x_iloc, x_aloc, x_lloc, x_bin, x_un, o_add, o_sub, o_mul, o_and, o_or, o_xor, o_shl, o_shr, o_ushr, o_max, o_min, o_i2b, o_i2c, o_i2l, o_l2i, x_fld, j_fget, x_idx, j_aget, x_len, j_alen, x_ofb, x_ite, xs_nil, xs_cons, x_callv, x_calls, s_callv, s_calls, j_recv, j_ret, j_retv, b_cmp, b_and, b_or, b_not, b_ofi, b_ite, b_true, s_skip, s_set, j_ty, j_lset, j_kill, s_inc, s_fput, j_fput, s_fop, s_aput, j_aput, j_nar, s_aop, s_ret, s_retv, s_go, s_pop, x_linc, x_finc, Value.category, if_icmp.holds, List.flatMap_cons, List.flatMap_nil, List.length_cons, List.length_append, List.length_nil, List.set_cons_succ, List.set_cons_zero, List.getElem?_cons_succ, List.getElem?_cons_zero, List.replicate, ite_and', ite_or', ite_int', nI_leI, nI_ltI, nI_eq, nI_add, nI_1, pk_mul, nI_clamp, n_in', nI_pos', nI_pos, n_m1e, n_01, n_10, sT_98, sT_99, sT_100, sT_101, sT_102, sT_103, sT_104, sT_105, sT_106, sT_107, sT_108, sT_109, sT_110, sT_111, sT_112, sT_113, sT_114, sT_115, sT_116, sT_117, sT_118, sT_119, sT_120, sT_121, sT_122, sT_123, sT_124, sT_125, sT_126, sT_127, sT_128, sT_129, sT_130, sT_131, sT_132, sT_133, sT_134, sT_135, sT_136, sT_137, sT_138, sT_139, sT_140, sR_98_1, sR_98_4, sR_98_5, sR_98_6, sR_98_7, sR_98_8, sR_98_9, sR_98_10, sR_98_12, sR_98_13, sR_98_14, sR_98_15, sR_98_16, sR_98_17, sR_98_18, sR_98_19, sR_98_20, sR_98_21, sR_98_22, sR_98_23, sR_98_24, sR_98_25, sR_98_26, sR_98_27, sR_98_28, sR_98_29, sR_98_31, sR_98_34, sR_98_35, sR_98_36, sR_98_42, sR_98_44, sR_98_45, sR_98_47, sR_98_49, sR_98_51, sR_98_56, sR_98_58, sR_98_62, sR_98_65, sR_98_66, sR_98_69, nI_0, g]
    · simp only [nI_0] at g
      simp (disch := first | assumption | omega) [chT1, j_meth, j_out, j_rok, j_pad, lg_sl, s_seq_w, isN_inl, isN_inr, s_if, jb, x_c, x_iloc, x_aloc, x_lloc, x_bin, x_un, o_add, o_sub, o_mul, o_and, o_or, o_xor, o_shl, o_shr, o_ushr, o_max, o_min, o_i2b, o_i2c, o_i2l, o_l2i, x_fld, j_fget, x_idx, j_aget, x_len, j_alen, x_ofb, x_ite, xs_nil, xs_cons, x_callv, x_calls, s_callv, s_calls, j_recv, j_ret, j_retv, b_cmp, b_and, b_or, b_not, b_ofi, b_ite, b_true, s_skip, s_set, j_ty, j_lset, j_kill, s_inc, s_fput, j_fput, s_fop, s_aput, j_aput, j_nar, s_aop, s_ret, s_retv, s_go, s_pop, x_linc, x_finc, Value.category, if_icmp.holds, List.flatMap_cons, List.flatMap_nil, List.length_cons, List.length_append, List.length_nil, List.set_cons_succ, List.set_cons_zero, List.getElem?_cons_succ, List.getElem?_cons_zero, List.replicate, ite_and', ite_or', ite_int', nI_leI, nI_ltI, nI_eq, nI_add, nI_1, pk_mul, nI_clamp, n_in', nI_pos', nI_pos, n_m1e, n_01, n_10, sT_98, sT_99, sT_100, sT_101, sT_102, sT_103, sT_104, sT_105, sT_106, sT_107, sT_108, sT_109, sT_110, sT_111, sT_112, sT_113, sT_114, sT_115, sT_116, sT_117, sT_118, sT_119, sT_120, sT_121, sT_122, sT_123, sT_124, sT_125, sT_126, sT_127, sT_128, sT_129, sT_130, sT_131, sT_132, sT_133, sT_134, sT_135, sT_136, sT_137, sT_138, sT_139, sT_140, sR_98_1, sR_98_4, sR_98_5, sR_98_6, sR_98_7, sR_98_8, sR_98_9, sR_98_10, sR_98_12, sR_98_13, sR_98_14, sR_98_15, sR_98_16, sR_98_17, sR_98_18, sR_98_19, sR_98_20, sR_98_21, sR_98_22, sR_98_23, sR_98_24, sR_98_25, sR_98_26, sR_98_27, sR_98_28, sR_98_29, sR_98_31, sR_98_34, sR_98_35, sR_98_36, sR_98_42, sR_98_44, sR_98_45, sR_98_47, sR_98_49, sR_98_51, sR_98_56, sR_98_58, sR_98_62, sR_98_65, sR_98_66, sR_98_69, nI_0, g, c39, c38, hlt]
    · simp only [nI_0] at g
      simp (disch := first | assumption | omega) [chT1, j_meth, j_out, j_rok, j_pad, lg_sl, s_seq_w, isN_inl, isN_inr, s_if, jb, x_c, x_iloc, x_aloc, x_lloc, x_bin, x_un, o_add, o_sub, o_mul, o_and, o_or, o_xor, o_shl, o_shr, o_ushr, o_max, o_min, o_i2b, o_i2c, o_i2l, o_l2i, x_fld, j_fget, x_idx, j_aget, x_len, j_alen, x_ofb, x_ite, xs_nil, xs_cons, x_callv, x_calls, s_callv, s_calls, j_recv, j_ret, j_retv, b_cmp, b_and, b_or, b_not, b_ofi, b_ite, b_true, s_skip, s_set, j_ty, j_lset, j_kill, s_inc, s_fput, j_fput, s_fop, s_aput, j_aput, j_nar, s_aop, s_ret, s_retv, s_go, s_pop, x_linc, x_finc, Value.category, if_icmp.holds, List.flatMap_cons, List.flatMap_nil, List.length_cons, List.length_append, List.length_nil, List.set_cons_succ, List.set_cons_zero, List.getElem?_cons_succ, List.getElem?_cons_zero, List.replicate, ite_and', ite_or', ite_int', nI_leI, nI_ltI, nI_eq, nI_add, nI_1, pk_mul, nI_clamp, n_in', nI_pos', nI_pos, n_m1e, n_01, n_10, sT_98, sT_99, sT_100, sT_101, sT_102, sT_103, sT_104, sT_105, sT_106, sT_107, sT_108, sT_109, sT_110, sT_111, sT_112, sT_113, sT_114, sT_115, sT_116, sT_117, sT_118, sT_119, sT_120, sT_121, sT_122, sT_123, sT_124, sT_125, sT_126, sT_127, sT_128, sT_129, sT_130, sT_131, sT_132, sT_133, sT_134, sT_135, sT_136, sT_137, sT_138, sT_139, sT_140, sR_98_1, sR_98_4, sR_98_5, sR_98_6, sR_98_7, sR_98_8, sR_98_9, sR_98_10, sR_98_12, sR_98_13, sR_98_14, sR_98_15, sR_98_16, sR_98_17, sR_98_18, sR_98_19, sR_98_20, sR_98_21, sR_98_22, sR_98_23, sR_98_24, sR_98_25, sR_98_26, sR_98_27, sR_98_28, sR_98_29, sR_98_31, sR_98_34, sR_98_35, sR_98_36, sR_98_42, sR_98_44, sR_98_45, sR_98_47, sR_98_49, sR_98_51, sR_98_56, sR_98_58, sR_98_62, sR_98_65, sR_98_66, sR_98_69, nI_0, g]
  | some q =>
    right
    simp only at g5
    obtain ⟨g, rcq, ckq, hle, h63⟩ := g5
    refine ⟨q, rfl, ?_, rcq, ckq⟩
    have hnl : ¬ j < tx.length := by omega
    simp only [nI_0] at g
    simp (disch := first | assumption | omega) [chT1, j_meth, j_out, j_rok, j_pad, lg_sl, s_seq_w, isN_inl, isN_inr, s_if, jb, x_c, x_iloc, x_aloc, x_lloc, x_bin, x_un, o_add, o_sub, o_mul, o_and, o_or, o_xor, o_shl, o_shr, o_ushr, o_max, o_min, o_i2b, o_i2c, o_i2l, o_l2i, x_fld, j_fget, x_idx, j_aget, x_len, j_alen, x_ofb, x_ite, xs_nil, xs_cons, x_callv, x_calls, s_callv, s_calls, j_recv, j_ret, j_retv, b_cmp, b_and, b_or, b_not, b_ofi, b_ite, b_true, s_skip, s_set, j_ty, j_lset, j_kill, s_inc, s_fput, j_fput, s_fop, s_aput, j_aput, j_nar, s_aop, s_ret, s_retv, s_go, s_pop, x_linc, x_finc, Value.category, if_icmp.holds, List.flatMap_cons, List.flatMap_nil, List.length_cons, List.length_append, List.length_nil, List.set_cons_succ, List.set_cons_zero, List.getElem?_cons_succ, List.getElem?_cons_zero, List.replicate, ite_and', ite_or', ite_int', nI_leI, nI_ltI, nI_eq, nI_add, nI_1, pk_mul, nI_clamp, n_in', nI_pos', nI_pos, n_m1e, n_01, n_10, sT_98, sT_99, sT_100, sT_101, sT_102, sT_103, sT_104, sT_105, sT_106, sT_107, sT_108, sT_109, sT_110, sT_111, sT_112, sT_113, sT_114, sT_115, sT_116, sT_117, sT_118, sT_119, sT_120, sT_121, sT_122, sT_123, sT_124, sT_125, sT_126, sT_127, sT_128, sT_129, sT_130, sT_131, sT_132, sT_133, sT_134, sT_135, sT_136, sT_137, sT_138, sT_139, sT_140, sR_98_1, sR_98_4, sR_98_5, sR_98_6, sR_98_7, sR_98_8, sR_98_9, sR_98_10, sR_98_12, sR_98_13, sR_98_14, sR_98_15, sR_98_16, sR_98_17, sR_98_18, sR_98_19, sR_98_20, sR_98_21, sR_98_22, sR_98_23, sR_98_24, sR_98_25, sR_98_26, sR_98_27, sR_98_28, sR_98_29, sR_98_31, sR_98_34, sR_98_35, sR_98_36, sR_98_42, sR_98_44, sR_98_45, sR_98_47, sR_98_49, sR_98_51, sR_98_56, sR_98_58, sR_98_62, sR_98_65, sR_98_66, sR_98_69, nI_0, g, c39, c38, hnl]
theorem RMK_choi {A : AS} {C : CH} {f : Nat} {h5 h6 : jHp} (w : WF A) (w' : WF (aChoi A f C)) (k5 : RMK A h5) (f6 : Fr (Wch f) h5 h6) (hf : f < 4) (c112 : hI h6 112 f = 1) (rch6 : RMch1 C h6 f) : RMK (aChoi A f C) h6 := by
  have hs6 := Fr_shape k5.1 f6
  obtain ⟨-, -, rp, rb, rl, rc, rch⟩ := k5
  refine ⟨hs6, w', RMp_c rp (fun a k z => Fr_I f6 (by unfold Wch W3; omega)), RMb_c rb (fun a k z => Fr_I f6 (by unfold Wch W3; omega)), RMl_c rl (fun a k z => Fr_I f6 (by unfold Wch W3; omega)), RMc_c rc (fun a k z => Fr_I f6 (by unfold Wch W3; omega)), fun g hg => ?_⟩
  have hcg : aCh (aChoi A f C) g = updN (aCh A) f (some C) g := rfl
  rw [hcg]
  by_cases e : g = f
  · subst e
    rw [updN_eq]
    exact ⟨c112, rch6⟩
  · rw [updN_ne _ _ e]
    have z := rch g hg
    have ok := (w.2.2.2.2.2.1 g).2
    cases hC : aCh A g with
    | none =>
      rw [hC] at z
      exact ⟨by rw [Fr_I f6 (by unfold Wch W3; omega)]; exact z.1, by rw [Fr_I f6 (by unfold Wch W3; omega)]; exact z.2.1, by rw [Fr_I f6 (by unfold Wch W3; omega)]; exact z.2.2⟩
    | some D =>
      rw [hC] at z
      have hD := ok D hC
      obtain ⟨z0, z1, z2, ⟨z3, z4⟩, ⟨z5, z6⟩, ⟨z7, z8⟩, ⟨z9, z10⟩⟩ := z
      have l1 := hD.2.2.1
      have l2 := hD.2.2.2.2.1
      have l3 := hD.2.2.2.2.2.2.1
      have l4 := hD.2.2.2.2.2.2.2.2.1
      exact ⟨by rw [Fr_I f6 (by unfold Wch W3; omega)]; exact z0, by rw [Fr_I f6 (by unfold Wch W3; omega)]; exact z1, by rw [Fr_I f6 (by unfold Wch W3; omega)]; exact z2, ⟨by rw [Fr_I f6 (by unfold Wch W3; omega)]; exact z3, fun k hk => by rw [Fr_I f6 (by unfold Wch W3; omega)]; exact z4 k hk⟩, ⟨by rw [Fr_I f6 (by unfold Wch W3; omega)]; exact z5, fun k hk => by rw [Fr_I f6 (by unfold Wch W3; omega), Fr_I f6 (by unfold Wch W3; omega)]; exact z6 k hk⟩, ⟨by rw [Fr_I f6 (by unfold Wch W3; omega)]; exact z7, fun k hk => by rw [Fr_I f6 (by unfold Wch W3; omega)]; exact z8 k hk⟩, ⟨by rw [Fr_I f6 (by unfold Wch W3; omega)]; exact z9, fun k hk => by rw [Fr_I f6 (by unfold Wch W3; omega)]; exact z10 k hk⟩⟩
theorem ch_fin {A B : AS} {tx : List Nat} {rw : List Int32} {h h6 : jHp} {f : Nat} (r : RMX A tx rw h) (fr6 : Fr (fun a k => Wc0 a k ∨ Wch f a k) h h6) (k6 : RMK B h6) (c37 : hI h6 98 37 = 0) (k30 : hI h6 98 30 = nI 0) : RMX B [] rw h6 ∧ Fr WM h h6 :=
  ⟨⟨k6, Or.inl c37, ⟨⟨by simp, fun x hx => by cases hx⟩, k30, fun i hi => by simp at hi⟩, RRw_eq r.2.2.2.1 (Fr_I fr6 (by unfold Wc0 Wch W3; omega)) (fun k => Fr_I fr6 (by unfold Wc0 Wch W3; omega)), ROf0_eq r.2.2.2.2 (fun k hk => Fr_I fr6 (by unfold Wc0 Wch W3; omega))⟩, Fr_mono fr6 (by unfold Wc0 Wch W3 WM; intro a k; omega)⟩
theorem hC0_f (h : jHp) : Fr (fun a k => a = 98 ∧ 39 ≤ k ∧ k ≤ 50) h (hC0 h) := by
  unfold hC0
  refine Fr_trans (Fr_trans (Fr_trans (Fr_trans (Fr_trans (Fr_trans (Fr_set _ ?_) (Fr_set _ ?_)) (Fr_set _ ?_)) (Fr_set _ ?_)) (Fr_set _ ?_)) (Fr_set _ ?_)) (Fr_set _ ?_) <;> simp
theorem hC0_c (h : jHp) : hI (hC0 h) 98 39 = nI 0 ∧ hI (hC0 h) 98 40 = nI 8 ∧ hI (hC0 h) 98 41 = -1 ∧ hI (hC0 h) 98 43 = nI 0 ∧ hI (hC0 h) 98 46 = nI 0 ∧ hI (hC0 h) 98 48 = nI 0 ∧ hI (hC0 h) 98 50 = nI 0 := by
  unfold hC0
  refine ⟨?_, ?_, ?_, ?_, ?_, ?_, ?_⟩ <;> simp [hI_setI]
theorem hC0_r (h : jHp) : RCn C0 (hC0 h) := by
  obtain ⟨-, c40, c41, c43, c46, c48, c50⟩ := hC0_c h
  exact ⟨c40, c41, ⟨c43, fun k hk => absurd hk (Nat.not_lt_zero k)⟩, ⟨c46, fun k hk => absurd hk (Nat.not_lt_zero k)⟩, ⟨c48, fun k hk => absurd hk (Nat.not_lt_zero k)⟩, ⟨c50, fun k hk => absurd hk (Nat.not_lt_zero k)⟩⟩
theorem ch_pre {A : AS} {tx : List Nat} {rw : List Int32} {h : jHp} (r : RMX A tx rw h) : ∃ h3, Fr Wc0 h h3 ∧ hI h3 98 30 = nI 0 ∧ hI h3 98 38 = nI tx.length ∧ ∀ x, f_M_choice [.ref 98, .int x] h = if j_in x (aNo A) then j_out 1 (chT0 ([.ref 98, .int x, .null, .null], h3)) else some (some (.int (-100)), h3) := by
  have hs := r.1.1
  have w := r.1.2.1
  have c30 := r.2.2.1.2.1
  have f0 : Fr Wc0 h (hSetI (hSetI (hSetI h 98 33 (nI 0)) 98 38 (nI tx.length)) 98 30 (nI 0)) := by
    refine Fr_trans (Fr_trans (Fr_set _ ?_) (Fr_set _ ?_)) (Fr_set _ ?_) <;> (unfold Wc0; omega)
  refine ⟨hSetI (hSetI (hSetI h 98 33 (nI 0)) 98 38 (nI tx.length)) 98 30 (nI 0), f0, by rw [hI_setI, if_pos ⟨rfl, rfl⟩], by rw [hI_setI, if_neg (by omega), hI_setI, if_pos ⟨rfl, rfl⟩], fun x => ?_⟩
  have s1 : Shape (hSetI h 98 33 (nI 0)) := Fr_shape (W := fun _ _ => True) hs (Fr_set _ trivial)
  have e30 : hI (hSetI h 98 33 (nI 0)) 98 30 = nI tx.length := by rw [hI_setI, if_neg (by omega)]; exact c30
  have s2 : Shape (hSetI (hSetI h 98 33 (nI 0)) 98 38 (nI tx.length)) := Fr_shape (W := fun _ _ => True) s1 (Fr_set _ trivial)
  have s3 := Fr_shape hs f0
  have k3 := RMK_fr r.1 f0 (by unfold cM Wc0; intro a k; omega)
  generalize g1 : hSetI h 98 33 (nI 0) = h1 at *
  generalize g2 : hSetI h1 98 38 (nI tx.length) = h2 at *
  generalize g3 : hSetI h2 98 30 (nI 0) = h3 at *
  have ef := e_M_isOffice s3 w k3.2.2.2.1 x
  by_cases hx : j_in x (aNo A) = true
  · rw [if_pos hx] at ef ⊢
    simp (disch := first | assumption | omega) [f_M_choice, ch_body, j_meth, j_out, j_rok, j_pad, lg_sl, s_seq_w, isN_inl, isN_inr, s_if, jb, x_c, x_iloc, x_aloc, x_lloc, x_bin, x_un, o_add, o_sub, o_mul, o_and, o_or, o_xor, o_shl, o_shr, o_ushr, o_max, o_min, o_i2b, o_i2c, o_i2l, o_l2i, x_fld, j_fget, x_idx, j_aget, x_len, j_alen, x_ofb, x_ite, xs_nil, xs_cons, x_callv, x_calls, s_callv, s_calls, j_recv, j_ret, j_retv, b_cmp, b_and, b_or, b_not, b_ofi, b_ite, b_true, s_skip, s_set, j_ty, j_lset, j_kill, s_inc, s_fput, j_fput, s_fop, s_aput, j_aput, j_nar, s_aop, s_ret, s_retv, s_go, s_pop, x_linc, x_finc, Value.category, if_icmp.holds, List.flatMap_cons, List.flatMap_nil, List.length_cons, List.length_append, List.length_nil, List.set_cons_succ, List.set_cons_zero, List.getElem?_cons_succ, List.getElem?_cons_zero, List.replicate, ite_and', ite_or', ite_int', nI_leI, nI_ltI, nI_eq, nI_add, nI_1, pk_mul, nI_clamp, n_in', nI_pos', nI_pos, n_m1e, n_01, n_10, sT_98, sT_99, sT_100, sT_101, sT_102, sT_103, sT_104, sT_105, sT_106, sT_107, sT_108, sT_109, sT_110, sT_111, sT_112, sT_113, sT_114, sT_115, sT_116, sT_117, sT_118, sT_119, sT_120, sT_121, sT_122, sT_123, sT_124, sT_125, sT_126, sT_127, sT_128, sT_129, sT_130, sT_131, sT_132, sT_133, sT_134, sT_135, sT_136, sT_137, sT_138, sT_139, sT_140, sR_98_1, sR_98_4, sR_98_5, sR_98_6, sR_98_7, sR_98_8, sR_98_9, sR_98_10, sR_98_12, sR_98_13, sR_98_14, sR_98_15, sR_98_16, sR_98_17, sR_98_18, sR_98_19, sR_98_20, sR_98_21, sR_98_22, sR_98_23, sR_98_24, sR_98_25, sR_98_26, sR_98_27, sR_98_28, sR_98_29, sR_98_31, sR_98_34, sR_98_35, sR_98_36, sR_98_42, sR_98_44, sR_98_45, sR_98_47, sR_98_49, sR_98_51, sR_98_56, sR_98_58, sR_98_62, sR_98_65, sR_98_66, sR_98_69, g1, e30, g2, g3, ef]
  · rw [if_neg hx] at ef ⊢
    simp (disch := first | assumption | omega) [f_M_choice, ch_body, j_meth, j_out, j_rok, j_pad, lg_sl, s_seq_w, isN_inl, isN_inr, s_if, jb, x_c, x_iloc, x_aloc, x_lloc, x_bin, x_un, o_add, o_sub, o_mul, o_and, o_or, o_xor, o_shl, o_shr, o_ushr, o_max, o_min, o_i2b, o_i2c, o_i2l, o_l2i, x_fld, j_fget, x_idx, j_aget, x_len, j_alen, x_ofb, x_ite, xs_nil, xs_cons, x_callv, x_calls, s_callv, s_calls, j_recv, j_ret, j_retv, b_cmp, b_and, b_or, b_not, b_ofi, b_ite, b_true, s_skip, s_set, j_ty, j_lset, j_kill, s_inc, s_fput, j_fput, s_fop, s_aput, j_aput, j_nar, s_aop, s_ret, s_retv, s_go, s_pop, x_linc, x_finc, Value.category, if_icmp.holds, List.flatMap_cons, List.flatMap_nil, List.length_cons, List.length_append, List.length_nil, List.set_cons_succ, List.set_cons_zero, List.getElem?_cons_succ, List.getElem?_cons_zero, List.replicate, ite_and', ite_or', ite_int', nI_leI, nI_ltI, nI_eq, nI_add, nI_1, pk_mul, nI_clamp, n_in', nI_pos', nI_pos, n_m1e, n_01, n_10, sT_98, sT_99, sT_100, sT_101, sT_102, sT_103, sT_104, sT_105, sT_106, sT_107, sT_108, sT_109, sT_110, sT_111, sT_112, sT_113, sT_114, sT_115, sT_116, sT_117, sT_118, sT_119, sT_120, sT_121, sT_122, sT_123, sT_124, sT_125, sT_126, sT_127, sT_128, sT_129, sT_130, sT_131, sT_132, sT_133, sT_134, sT_135, sT_136, sT_137, sT_138, sT_139, sT_140, sR_98_1, sR_98_4, sR_98_5, sR_98_6, sR_98_7, sR_98_8, sR_98_9, sR_98_10, sR_98_12, sR_98_13, sR_98_14, sR_98_15, sR_98_16, sR_98_17, sR_98_18, sR_98_19, sR_98_20, sR_98_21, sR_98_22, sR_98_23, sR_98_24, sR_98_25, sR_98_26, sR_98_27, sR_98_28, sR_98_29, sR_98_31, sR_98_34, sR_98_35, sR_98_36, sR_98_42, sR_98_44, sR_98_45, sR_98_47, sR_98_49, sR_98_51, sR_98_56, sR_98_58, sR_98_62, sR_98_65, sR_98_66, sR_98_69, g1, e30, g2, g3, ef]
theorem ch_mid {A : AS} {tx : List Nat} {rw : List Int32} {h : jHp} (r : RMX A tx rw h) {f : Nat} (hf : f < aNo A) {o : Option (CH × Nat)} {j : Nat} (hP : pAl tx 21 0 C0 0 = (o, j)) : ∃ h', (o = none ∧ f_M_choice [.ref 98, .int (nI f)] h = some (some (.int (-1 - nI j)), h') ∧ RMX A [] rw h' ∧ Fr WM h h') ∨ (∃ q, o = some q ∧ f_M_choice [.ref 98, .int (nI f)] h = some (some (.int (nI q.2)), h') ∧ RMX (aChoi A f q.1) [] rw h' ∧ Fr WM h h') := by
  have w := r.1.2.1
  have hno := w.2.1
  have rt := r.2.2.1
  obtain ⟨h3, f0, d30, d38, hst⟩ := ch_pre r
  have s3 := Fr_shape r.1.1 f0
  have hx : j_in (nI f) (aNo A) = true := n_in' hf (by omega)
  have e0 := hst (nI f)
  rw [if_pos hx, e_chT0 s3] at e0
  have f4 := hC0_f h3
  have rc4 := hC0_r h3
  have c39 := (hC0_c h3).1
  have fc4 : Fr Wc0 h (hC0 h3) := Fr_trans f0 (Fr_mono f4 (by unfold Wc0; intro a k; omega))
  have rp4 : RP tx 0 (hC0 h3) := ⟨Fr_shape s3 f4, rt.1, by rw [Fr_I f4 (by omega)]; exact d38, c39, fun j hj => by rw [Fr_I f4 (by omega), Fr_I f0 (by unfold Wc0; omega)]; exact rt.2.2 j hj⟩
  have e30 : hI (hC0 h3) 98 30 = nI 0 := by rw [Fr_I f4 (by omega)]; exact d30
  generalize hC0 h3 = h4 at *
  obtain ⟨h5, rp5, f5, g5⟩ := e_chR (f := f) rp4 rc4 hP
  have fc5 : Fr Wc0 h h5 := Fr_trans fc4 (Fr_mono f5 Wln_c0)
  have k30 : hI h5 98 30 = nI 0 := by rw [Fr_I f5 (by unfold Wln; omega)]; exact e30
  rcases g5 with ⟨h1, e5⟩ | ⟨q, h1, e5, rcq, ckq⟩
  · obtain ⟨z1, z2⟩ := c0_fin r fc5 k30
    exact ⟨h5, Or.inl ⟨h1, e0.trans e5, z1, z2⟩⟩
  · obtain ⟨h6, e6, f6, c112, rch6, c37⟩ := e_chT2 rp5.1 (f := f) (by omega) ckq rcq (nI q.2)
    have w' := WF_choi w hf (CHk_ok ckq (by decide))
    have k5 := RMK_fr r.1 fc5 (by unfold cM Wc0; intro a k; omega)
    have fr6 : Fr (fun a k => Wc0 a k ∨ Wch f a k) h h6 := Fr_trans (Fr_mono fc5 fun a k q => Or.inl q) (Fr_mono f6 fun a k q => Or.inr q)
    have k6 := RMK_choi w w' k5 f6 (by omega) c112 rch6
    have k30' : hI h6 98 30 = nI 0 := by rw [Fr_I f6 (by unfold Wch W3; omega)]; exact k30
    obtain ⟨z1, z2⟩ := ch_fin r fr6 k6 c37 k30'
    exact ⟨h6, Or.inr ⟨q, h1, (e0.trans e5).trans e6, z1, z2⟩⟩
theorem o_M_choice {A : AS} {tx : List Nat} {rw : List Int32} {h : jHp} (r : RMX A tx rw h) (x : Int32) : ∃ h', f_M_choice [.ref 98, .int x] h = some (some (.int (vChoice A tx x).1), h') ∧ RMX (vChoice A tx x).2 [] rw h' ∧ Fr WM h h' := by
  have hno := r.1.2.1.2.1
  by_cases hx : j_in x (aNo A) = true
  · obtain ⟨f, hf, rfl⟩ := j_in_ex hx (by omega)
    have cf : (nI f).toNatClampNeg = f := nI_clamp (by omega)
    have hv0 : vChoice A tx (nI f) = (match pAl tx 21 0 C0 0 with
      | (some q, _) => (nI q.2, aChoi A (nI f).toNatClampNeg q.1)
      | (none, j) => (-1 - nI j, A)) := if_pos hx
    rw [cf] at hv0
    generalize hP : pAl tx 21 0 C0 0 = P at hv0
    obtain ⟨o, j⟩ := P
    obtain ⟨h', ⟨h1, e, z1, z2⟩ | ⟨q, h1, e, z1, z2⟩⟩ := ch_mid r hf hP
    · subst h1
      rw [hv0]
      exact ⟨h', e, z1, z2⟩
    · subst h1
      rw [hv0]
      exact ⟨h', e, z1, z2⟩
  · have hv : vChoice A tx x = (-100, A) := if_neg hx
    rw [hv]
    obtain ⟨h3, f0, d30, d38, hst⟩ := ch_pre r
    have e := hst x
    rw [if_neg hx] at e
    obtain ⟨z1, z2⟩ := c0_fin r f0 d30
    exact ⟨h3, e, z1, z2⟩
