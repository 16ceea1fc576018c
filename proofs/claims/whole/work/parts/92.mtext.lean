/-! THE TEXT in the reference -/
def n32 (v : Int32) : Nat := v.toBitVec.toNat
theorem n32_lt (v : Int32) : n32 v < 2 ^ 32 := v.toBitVec.isLt
theorem n32_nI (v : Int32) : nI (n32 v) = v := by
  apply Int32.toBitVec_inj.1
  show BitVec.ofNat 32 v.toBitVec.toNat = v.toBitVec
  simp
def bytN (v : Int32) (k : Nat) : Nat := n32 v / 2 ^ (8 * k) % 256
def byts (v : Int32) : List Nat := [bytN v 3, bytN v 2, bytN v 1, bytN v 0]
theorem byt_t8 {a b : Int32} (h : ∀ i, i < 8 → a.toBitVec.getLsbD i = b.toBitVec.getLsbD i) : a.toInt8 = b.toInt8 := by
  apply Int8.toBitVec_inj.1
  show a.toBitVec.signExtend 8 = b.toBitVec.signExtend 8
  apply BitVec.eq_of_getLsbD_eq
  intro i hi
  rw [BitVec.getLsbD_signExtend, BitVec.getLsbD_signExtend]
  rw [if_pos (by omega), if_pos (by omega), h i hi]
theorem byt_ok (v : Int32) {k : Nat} (hk : k < 4) : (v >>> (nI (8 * k) &&& 31)).toInt8 = (nI (bytN v k)).toInt8 := by
  apply byt_t8
  intro i hi
  have hs : ((nI (8 * k) &&& 31).toBitVec.smod 32).toNat = 8 * k := n_sl (8 * k) (by omega)
  have e1 : (v >>> (nI (8 * k) &&& 31)).toBitVec = v.toBitVec.sshiftRight ((nI (8 * k) &&& 31).toBitVec.smod 32).toNat := by
    rw [Int32.toBitVec_shiftRight, BitVec.sshiftRight']
  rw [e1, hs, BitVec.getLsbD_sshiftRight]
  have e2 : (nI (bytN v k)).toBitVec.getLsbD i = (bytN v k).testBit i := by
    rw [n_tb, BitVec.getLsbD_ofNat]
    simp [show i < 32 by omega]
  rw [e2]
  unfold bytN n32
  rw [show (256 : Nat) = 2 ^ 8 by decide, Nat.testBit_mod_two_pow, Nat.testBit_div_two_pow]
  simp [hi, show ¬ 32 ≤ i by omega, show 8 * k + i < 32 by omega, BitVec.getLsbD]
  rw [Nat.add_comm]

def vSign (tx : List Nat) (v : Int32) : Int32 × List Nat := if tx.length + 4 ≤ 100 then (nI (tx.length + 4), tx ++ byts v) else (-1, tx)
theorem RTx_app {tx : List Nat} {h : jHp} {b : Nat} {x : Int32} (r : RTx tx h) (hl : tx.length < 100) (hb : b < 256) (hx : x.toInt8 = (nI b).toInt8) : RTx (tx ++ [b]) (hSetI (hSetI h 98 30 (nI (tx.length + 1))) 124 tx.length x.toInt8.toInt32) := by
  refine ⟨⟨by rw [List.length_append, List.length_singleton]; omega, fun y hy => ?_⟩, ?_, fun i hi => ?_⟩
  · rcases List.mem_append.mp hy with q | q
    · exact r.1.2 y q
    · simp only [List.mem_singleton] at q; subst q; exact hb
  · rw [hI_setI, if_neg (by omega), hI_setI, if_pos ⟨rfl, rfl⟩, List.length_append, List.length_singleton]
  · rw [List.length_append, List.length_singleton] at hi
    rw [hI_setI]
    by_cases e : i = tx.length
    · subst e; rw [if_pos ⟨rfl, rfl⟩, hx]; simp
    · rw [if_neg (by omega), hI_setI, if_neg (by omega), r.2.2 i (by omega)]
      simp only [List.getD_eq_getElem?_getD]
      rw [List.getElem?_append_left (by omega)]
theorem t8t8 (x : Int32) : x.toInt8.toInt32.toInt8 = x.toInt8 := by simp
def Wtx (a k : Nat) : Prop := a = 124 ∨ (a = 98 ∧ (k = 30 ∨ k = 33))
theorem tx_fin {A : AS} {tx tx' : List Nat} {rw : List Int32} {h h1 : jHp} (r : RMX A tx rw h) (f : Fr Wtx h h1) (rt : RTx tx' h1) : RMX A tx' rw h1 ∧ Fr WM h h1 :=
  ⟨⟨RMK_fr r.1 f (by unfold cM Wtx; intro a k; omega), RMT_fr r.2.1 f (by unfold Wtx; intro a k; omega), rt, RRw_eq r.2.2.2.1 (Fr_I f (by unfold Wtx; omega)) (fun k => Fr_I f (by unfold Wtx; omega)), ROf0_eq r.2.2.2.2 (fun k hk => Fr_I f (by unfold Wtx; omega))⟩, Fr_mono f (by unfold Wtx WM; intro a k; omega)⟩
theorem o_M_sign {A : AS} {tx : List Nat} {rw : List Int32} {h : jHp} (r : RMX A tx rw h) (v : Int32) : ∃ h', f_M_sign [.ref 98, .int v] h = some (some (.int (vSign tx v).1), h') ∧ RMX A (vSign tx v).2 rw h' ∧ Fr WM h h' := by
  have hs := r.1.1
  have r0 := RMX_33 r (nI 0)
  have hs0 := r0.1.1
  have rt0 := r0.2.2.1
  have c30 := rt0.2.1
  have hl := rt0.1.1
  have f0 : Fr Wtx h (hSetI h 98 33 (nI 0)) := Fr_set _ (Or.inr ⟨rfl, Or.inr rfl⟩)
  generalize hh0 : hSetI h 98 33 (nI 0) = h0 at *
  unfold vSign
  by_cases hc : tx.length + 4 ≤ 100
  case neg =>
    rw [if_neg hc]
    have hc' : 100 < tx.length + 4 := by omega
    refine ⟨h0, ?_, tx_fin r f0 rt0⟩
    simp (disch := first | assumption | omega) [f_M_sign, body_M_sign, j_meth, j_out, j_rok, j_pad, lg_sl, s_seq_w, isN_inl, isN_inr, s_if, jb, x_c, x_iloc, x_aloc, x_lloc, x_bin, x_un, o_add, o_sub, o_mul, o_and, o_or, o_xor, o_shl, o_shr, o_ushr, o_max, o_min, o_i2b, o_i2c, o_i2l, o_l2i, x_fld, j_fget, x_idx, j_aget, x_len, j_alen, x_ofb, x_ite, xs_nil, xs_cons, x_callv, x_calls, s_callv, s_calls, j_recv, j_ret, j_retv, b_cmp, b_and, b_or, b_not, b_ofi, b_ite, b_true, s_skip, s_set, j_ty, j_lset, j_kill, s_inc, s_fput, j_fput, s_fop, s_aput, j_aput, j_nar, s_aop, s_ret, s_retv, s_go, s_pop, x_linc, x_finc, Value.category, if_icmp.holds, List.flatMap_cons, List.flatMap_nil, List.length_cons, List.length_append, List.length_nil, List.set_cons_succ, List.set_cons_zero, List.getElem?_cons_succ, List.getElem?_cons_zero, List.replicate, ite_and', ite_or', ite_int', nI_leI, nI_ltI, nI_eq, nI_add, nI_1, pk_mul, nI_clamp, n_in', nI_pos', nI_pos, n_m1e, n_01, n_10, sT_98, sT_99, sT_100, sT_101, sT_102, sT_103, sT_104, sT_105, sT_106, sT_107, sT_108, sT_109, sT_110, sT_111, sT_112, sT_113, sT_114, sT_115, sT_116, sT_117, sT_118, sT_119, sT_120, sT_121, sT_122, sT_123, sT_124, sT_125, sT_126, sT_127, sT_128, sT_129, sT_130, sT_131, sT_132, sT_133, sT_134, sT_135, sT_136, sT_137, sT_138, sT_139, sT_140, sR_98_1, sR_98_4, sR_98_5, sR_98_6, sR_98_7, sR_98_8, sR_98_9, sR_98_10, sR_98_12, sR_98_13, sR_98_14, sR_98_15, sR_98_16, sR_98_17, sR_98_18, sR_98_19, sR_98_20, sR_98_21, sR_98_22, sR_98_23, sR_98_24, sR_98_25, sR_98_26, sR_98_27, sR_98_28, sR_98_29, sR_98_31, sR_98_34, sR_98_35, sR_98_36, sR_98_42, sR_98_44, sR_98_45, sR_98_47, sR_98_49, sR_98_51, sR_98_56, sR_98_58, sR_98_62, sR_98_65, sR_98_66, sR_98_69, hh0, c30, hc']
  rw [if_pos hc]
  have hc' : ¬ 100 < tx.length + 4 := by omega
  have hX := loop_wp (lb := 1) (lc := 2) (c := lc_M_sign_1) (b := lb_M_sign_1) (u := lu_M_sign_1) 4
    (fun i st => ∃ h' k, st = ([.ref 98, .int v, .int k], h') ∧ k = nI (4 - i) - nI 1 ∧ Fr Wtx h h' ∧ RTx (tx ++ (byts v).take i) h')
    (fun q => ∃ h' w, q = (.inl 0, ([.ref 98, .int v, w], h')) ∧ Fr Wtx h h' ∧ RTx (tx ++ byts v) h')
    ?_ ?_ ([.ref 98, .int v, .int (nI 3)], h0) ⟨h0, nI 3, rfl, by decide, f0, by simpa using rt0⟩
  · obtain ⟨q, e, h1, wv, rfl, f1, rt1⟩ := hX
    have hs1 := Fr_shape hs f1
    have c := rt1.2.1
    rw [List.length_append] at c
    have hb4 : (byts v).length = 4 := rfl
    rw [hb4] at c
    refine ⟨h1, ?_, tx_fin r f1 rt1⟩
    simp (disch := first | assumption | omega) [f_M_sign, body_M_sign, j_meth, j_out, j_rok, j_pad, lg_sl, s_seq_w, isN_inl, isN_inr, s_if, jb, x_c, x_iloc, x_aloc, x_lloc, x_bin, x_un, o_add, o_sub, o_mul, o_and, o_or, o_xor, o_shl, o_shr, o_ushr, o_max, o_min, o_i2b, o_i2c, o_i2l, o_l2i, x_fld, j_fget, x_idx, j_aget, x_len, j_alen, x_ofb, x_ite, xs_nil, xs_cons, x_callv, x_calls, s_callv, s_calls, j_recv, j_ret, j_retv, b_cmp, b_and, b_or, b_not, b_ofi, b_ite, b_true, s_skip, s_set, j_ty, j_lset, j_kill, s_inc, s_fput, j_fput, s_fop, s_aput, j_aput, j_nar, s_aop, s_ret, s_retv, s_go, s_pop, x_linc, x_finc, Value.category, if_icmp.holds, List.flatMap_cons, List.flatMap_nil, List.length_cons, List.length_append, List.length_nil, List.set_cons_succ, List.set_cons_zero, List.getElem?_cons_succ, List.getElem?_cons_zero, List.replicate, ite_and', ite_or', ite_int', nI_leI, nI_ltI, nI_eq, nI_add, nI_1, pk_mul, nI_clamp, n_in', nI_pos', nI_pos, n_m1e, n_01, n_10, sT_98, sT_99, sT_100, sT_101, sT_102, sT_103, sT_104, sT_105, sT_106, sT_107, sT_108, sT_109, sT_110, sT_111, sT_112, sT_113, sT_114, sT_115, sT_116, sT_117, sT_118, sT_119, sT_120, sT_121, sT_122, sT_123, sT_124, sT_125, sT_126, sT_127, sT_128, sT_129, sT_130, sT_131, sT_132, sT_133, sT_134, sT_135, sT_136, sT_137, sT_138, sT_139, sT_140, sR_98_1, sR_98_4, sR_98_5, sR_98_6, sR_98_7, sR_98_8, sR_98_9, sR_98_10, sR_98_12, sR_98_13, sR_98_14, sR_98_15, sR_98_16, sR_98_17, sR_98_18, sR_98_19, sR_98_20, sR_98_21, sR_98_22, sR_98_23, sR_98_24, sR_98_25, sR_98_26, sR_98_27, sR_98_28, sR_98_29, sR_98_31, sR_98_34, sR_98_35, sR_98_36, sR_98_42, sR_98_44, sR_98_45, sR_98_47, sR_98_49, sR_98_51, sR_98_56, sR_98_58, sR_98_62, sR_98_65, sR_98_66, sR_98_69, hh0, c30, hc', e, c]
  · rintro i st hi ⟨h1, k, rfl, rfl, f1, rt1⟩
    left
    have hs1 := Fr_shape hs f1
    have hlen : (tx ++ (byts v).take i).length = tx.length + i := by
      rw [List.length_append, List.length_take]
      have hb4 : (byts v).length = 4 := rfl
      omega
    have c := rt1.2.1
    rw [hlen] at c
    have hk : nI (4 - i) - nI 1 = nI (3 - i) := by rw [pk_sub (by omega)]; congr 1; omega
    have hk2 : nI (3 - i) + -1 = nI (4 - (i + 1)) - nI 1 := by
      rw [← hk]
      have : (-1 : Int32) = - nI 1 := by decide
      rw [this, ← Int32.sub_eq_add_neg, Int32.sub_sub, nI_add, Int32.sub_eq_iff_eq_add]
      have h4 : i < 4 := hi
      have : i = 0 ∨ i = 1 ∨ i = 2 ∨ i = 3 := by omega
      rcases this with rfl | rfl | rfl | rfl <;> decide
    rw [hk]
    have hby := byt_ok v (k := 3 - i) (by omega)
    have hbl : bytN v (3 - i) < 256 := Nat.mod_lt _ (by decide)
    have rt2 := RTx_app (b := bytN v (3 - i)) (x := v >>> (nI (8 * (3 - i)) &&& 31)) rt1 (by omega) hbl hby
    have htk : (byts v).take (i + 1) = (byts v).take i ++ [bytN v (3 - i)] := by
      have : i = 0 ∨ i = 1 ∨ i = 2 ∨ i = 3 := by omega
      rcases this with rfl | rfl | rfl | rfl <;> rfl
    rw [List.append_assoc, ← htk, hlen] at rt2
    have f2 : Fr Wtx h (hSetI (hSetI h1 98 30 (nI (tx.length + i + 1))) 124 (tx.length + i) (v >>> (nI (8 * (3 - i)) &&& 31)).toInt8.toInt32) := Fr_trans f1 (Fr_trans (Fr_set _ (Or.inr ⟨rfl, Or.inl rfl⟩)) (Fr_set _ (Or.inl rfl)))
    refine ⟨_, ?_, _, _, rfl, rfl, f2, rt2⟩
    have hp : 0 ≤ nI (3 - i) := nI_pos' (by omega)
    have hs2 : Shape (hSetI h1 98 30 (nI (tx.length + i + 1))) := Fr_shape (W := fun _ _ => True) hs1 (Fr_set _ trivial)
    rw [← hk2]
    generalize hg1 : hSetI h1 98 30 (nI (tx.length + i + 1)) = h2 at *
    generalize 3 - i = k at *
    simp (disch := first | assumption | omega) [lstp, lc_M_sign_1, lb_M_sign_1, lu_M_sign_1, j_meth, j_out, j_rok, j_pad, lg_sl, s_seq_w, isN_inl, isN_inr, s_if, jb, x_c, x_iloc, x_aloc, x_lloc, x_bin, x_un, o_add, o_sub, o_mul, o_and, o_or, o_xor, o_shl, o_shr, o_ushr, o_max, o_min, o_i2b, o_i2c, o_i2l, o_l2i, x_fld, j_fget, x_idx, j_aget, x_len, j_alen, x_ofb, x_ite, xs_nil, xs_cons, x_callv, x_calls, s_callv, s_calls, j_recv, j_ret, j_retv, b_cmp, b_and, b_or, b_not, b_ofi, b_ite, b_true, s_skip, s_set, j_ty, j_lset, j_kill, s_inc, s_fput, j_fput, s_fop, s_aput, j_aput, j_nar, s_aop, s_ret, s_retv, s_go, s_pop, x_linc, x_finc, Value.category, if_icmp.holds, List.flatMap_cons, List.flatMap_nil, List.length_cons, List.length_append, List.length_nil, List.set_cons_succ, List.set_cons_zero, List.getElem?_cons_succ, List.getElem?_cons_zero, List.replicate, ite_and', ite_or', ite_int', nI_leI, nI_ltI, nI_eq, nI_add, nI_1, pk_mul, nI_clamp, n_in', nI_pos', nI_pos, n_m1e, n_01, n_10, sT_98, sT_99, sT_100, sT_101, sT_102, sT_103, sT_104, sT_105, sT_106, sT_107, sT_108, sT_109, sT_110, sT_111, sT_112, sT_113, sT_114, sT_115, sT_116, sT_117, sT_118, sT_119, sT_120, sT_121, sT_122, sT_123, sT_124, sT_125, sT_126, sT_127, sT_128, sT_129, sT_130, sT_131, sT_132, sT_133, sT_134, sT_135, sT_136, sT_137, sT_138, sT_139, sT_140, sR_98_1, sR_98_4, sR_98_5, sR_98_6, sR_98_7, sR_98_8, sR_98_9, sR_98_10, sR_98_12, sR_98_13, sR_98_14, sR_98_15, sR_98_16, sR_98_17, sR_98_18, sR_98_19, sR_98_20, sR_98_21, sR_98_22, sR_98_23, sR_98_24, sR_98_25, sR_98_26, sR_98_27, sR_98_28, sR_98_29, sR_98_31, sR_98_34, sR_98_35, sR_98_36, sR_98_42, sR_98_44, sR_98_45, sR_98_47, sR_98_49, sR_98_51, sR_98_56, sR_98_58, sR_98_62, sR_98_65, sR_98_66, sR_98_69, hp, c, hg1, t8t8, pk_mul]
  · rintro st ⟨h1, k, rfl, rfl, f1, rt1⟩
    have hs1 := Fr_shape hs f1
    have hb4 : (byts v).take 4 = byts v := rfl
    rw [hb4] at rt1
    have hm : ¬ (0 : Int32) ≤ nI (4 - 4) - nI 1 := by decide
    generalize nI (4 - 4) - nI 1 = z at *
    refine ⟨_, ?_, h1, .int z, rfl, f1, rt1⟩
    simp (disch := first | assumption | omega) [lstp, lc_M_sign_1, lb_M_sign_1, lu_M_sign_1, j_meth, j_out, j_rok, j_pad, lg_sl, s_seq_w, isN_inl, isN_inr, s_if, jb, x_c, x_iloc, x_aloc, x_lloc, x_bin, x_un, o_add, o_sub, o_mul, o_and, o_or, o_xor, o_shl, o_shr, o_ushr, o_max, o_min, o_i2b, o_i2c, o_i2l, o_l2i, x_fld, j_fget, x_idx, j_aget, x_len, j_alen, x_ofb, x_ite, xs_nil, xs_cons, x_callv, x_calls, s_callv, s_calls, j_recv, j_ret, j_retv, b_cmp, b_and, b_or, b_not, b_ofi, b_ite, b_true, s_skip, s_set, j_ty, j_lset, j_kill, s_inc, s_fput, j_fput, s_fop, s_aput, j_aput, j_nar, s_aop, s_ret, s_retv, s_go, s_pop, x_linc, x_finc, Value.category, if_icmp.holds, List.flatMap_cons, List.flatMap_nil, List.length_cons, List.length_append, List.length_nil, List.set_cons_succ, List.set_cons_zero, List.getElem?_cons_succ, List.getElem?_cons_zero, List.replicate, ite_and', ite_or', ite_int', nI_leI, nI_ltI, nI_eq, nI_add, nI_1, pk_mul, nI_clamp, n_in', nI_pos', nI_pos, n_m1e, n_01, n_10, sT_98, sT_99, sT_100, sT_101, sT_102, sT_103, sT_104, sT_105, sT_106, sT_107, sT_108, sT_109, sT_110, sT_111, sT_112, sT_113, sT_114, sT_115, sT_116, sT_117, sT_118, sT_119, sT_120, sT_121, sT_122, sT_123, sT_124, sT_125, sT_126, sT_127, sT_128, sT_129, sT_130, sT_131, sT_132, sT_133, sT_134, sT_135, sT_136, sT_137, sT_138, sT_139, sT_140, sR_98_1, sR_98_4, sR_98_5, sR_98_6, sR_98_7, sR_98_8, sR_98_9, sR_98_10, sR_98_12, sR_98_13, sR_98_14, sR_98_15, sR_98_16, sR_98_17, sR_98_18, sR_98_19, sR_98_20, sR_98_21, sR_98_22, sR_98_23, sR_98_24, sR_98_25, sR_98_26, sR_98_27, sR_98_28, sR_98_29, sR_98_31, sR_98_34, sR_98_35, sR_98_36, sR_98_42, sR_98_44, sR_98_45, sR_98_47, sR_98_49, sR_98_51, sR_98_56, sR_98_58, sR_98_62, sR_98_65, sR_98_66, sR_98_69, hm]
def vEnd (tx : List Nat) (x : Int32) : Int32 × List Nat := if j_in x (tx.length + 1) then (1, tx.take x.toNatClampNeg) else (0, tx)
theorem o_M_end {A : AS} {tx : List Nat} {rw : List Int32} {h : jHp} (r : RMX A tx rw h) (x : Int32) : ∃ h', f_M_end [.ref 98, .int x] h = some (some (.int (vEnd tx x).1), h') ∧ RMX A (vEnd tx x).2 rw h' ∧ Fr WM h h' := by
  have hs := r.1.1
  have r0 := RMX_33 r (nI 0)
  have hs0 := r0.1.1
  have rt0 := r0.2.2.1
  have c30 := rt0.2.1
  have hl := rt0.1.1
  have f0 : Fr Wtx h (hSetI h 98 33 (nI 0)) := Fr_set _ (Or.inr ⟨rfl, Or.inr rfl⟩)
  generalize hh0 : hSetI h 98 33 (nI 0) = h0 at *
  have ei := e_M_in h0 x (nI 0) (nI tx.length)
  have hji := j_in_le (x := x) (n := tx.length + 1) (by omega)
  rw [pk_sub (by omega), Nat.add_sub_cancel, ← nI_0] at hji
  unfold vEnd
  by_cases hx : j_in x (tx.length + 1) = true
  · rw [if_pos hx]
    rw [if_pos (hji.mpr hx)] at ei
    obtain ⟨n, hn, rfl⟩ := j_in_ex hx (by omega)
    rw [nI_clamp (show n < 2 ^ 31 by omega)]
    have f1 : Fr Wtx h (hSetI h0 98 30 (nI n)) := Fr_trans f0 (Fr_set _ (Or.inr ⟨rfl, Or.inl rfl⟩))
    have hlt : (tx.take n).length = n := by rw [List.length_take]; omega
    have rt1 : RTx (tx.take n) (hSetI h0 98 30 (nI n)) := by
      refine ⟨⟨by omega, fun y hy => rt0.1.2 y (List.mem_of_mem_take hy)⟩, by rw [hI_setI, if_pos ⟨rfl, rfl⟩, hlt], fun i hi => ?_⟩
      rw [hlt] at hi
      rw [hI_setI, if_neg (by omega), rt0.2.2 i (by omega)]
      simp only [List.getD_eq_getElem?_getD]
      rw [List.getElem?_take, if_pos hi]
    refine ⟨hSetI h0 98 30 (nI n), ?_, tx_fin r f1 rt1⟩
    have hs1 := Fr_shape hs f1
    generalize hg : hSetI h0 98 30 (nI n) = h1 at *
    simp (disch := first | assumption | omega) [f_M_end, body_M_end, j_meth, j_out, j_rok, j_pad, lg_sl, s_seq_w, isN_inl, isN_inr, s_if, jb, x_c, x_iloc, x_aloc, x_lloc, x_bin, x_un, o_add, o_sub, o_mul, o_and, o_or, o_xor, o_shl, o_shr, o_ushr, o_max, o_min, o_i2b, o_i2c, o_i2l, o_l2i, x_fld, j_fget, x_idx, j_aget, x_len, j_alen, x_ofb, x_ite, xs_nil, xs_cons, x_callv, x_calls, s_callv, s_calls, j_recv, j_ret, j_retv, b_cmp, b_and, b_or, b_not, b_ofi, b_ite, b_true, s_skip, s_set, j_ty, j_lset, j_kill, s_inc, s_fput, j_fput, s_fop, s_aput, j_aput, j_nar, s_aop, s_ret, s_retv, s_go, s_pop, x_linc, x_finc, Value.category, if_icmp.holds, List.flatMap_cons, List.flatMap_nil, List.length_cons, List.length_append, List.length_nil, List.set_cons_succ, List.set_cons_zero, List.getElem?_cons_succ, List.getElem?_cons_zero, List.replicate, ite_and', ite_or', ite_int', nI_leI, nI_ltI, nI_eq, nI_add, nI_1, pk_mul, nI_clamp, n_in', nI_pos', nI_pos, n_m1e, n_01, n_10, sT_98, sT_99, sT_100, sT_101, sT_102, sT_103, sT_104, sT_105, sT_106, sT_107, sT_108, sT_109, sT_110, sT_111, sT_112, sT_113, sT_114, sT_115, sT_116, sT_117, sT_118, sT_119, sT_120, sT_121, sT_122, sT_123, sT_124, sT_125, sT_126, sT_127, sT_128, sT_129, sT_130, sT_131, sT_132, sT_133, sT_134, sT_135, sT_136, sT_137, sT_138, sT_139, sT_140, sR_98_1, sR_98_4, sR_98_5, sR_98_6, sR_98_7, sR_98_8, sR_98_9, sR_98_10, sR_98_12, sR_98_13, sR_98_14, sR_98_15, sR_98_16, sR_98_17, sR_98_18, sR_98_19, sR_98_20, sR_98_21, sR_98_22, sR_98_23, sR_98_24, sR_98_25, sR_98_26, sR_98_27, sR_98_28, sR_98_29, sR_98_31, sR_98_34, sR_98_35, sR_98_36, sR_98_42, sR_98_44, sR_98_45, sR_98_47, sR_98_49, sR_98_51, sR_98_56, sR_98_58, sR_98_62, sR_98_65, sR_98_66, sR_98_69, hh0, c30, ei, hg, n_e1]
  · rw [if_neg hx]
    rw [if_neg (fun q => hx (hji.mp q))] at ei
    refine ⟨h0, ?_, tx_fin r f0 rt0⟩
    simp (disch := first | assumption | omega) [f_M_end, body_M_end, j_meth, j_out, j_rok, j_pad, lg_sl, s_seq_w, isN_inl, isN_inr, s_if, jb, x_c, x_iloc, x_aloc, x_lloc, x_bin, x_un, o_add, o_sub, o_mul, o_and, o_or, o_xor, o_shl, o_shr, o_ushr, o_max, o_min, o_i2b, o_i2c, o_i2l, o_l2i, x_fld, j_fget, x_idx, j_aget, x_len, j_alen, x_ofb, x_ite, xs_nil, xs_cons, x_callv, x_calls, s_callv, s_calls, j_recv, j_ret, j_retv, b_cmp, b_and, b_or, b_not, b_ofi, b_ite, b_true, s_skip, s_set, j_ty, j_lset, j_kill, s_inc, s_fput, j_fput, s_fop, s_aput, j_aput, j_nar, s_aop, s_ret, s_retv, s_go, s_pop, x_linc, x_finc, Value.category, if_icmp.holds, List.flatMap_cons, List.flatMap_nil, List.length_cons, List.length_append, List.length_nil, List.set_cons_succ, List.set_cons_zero, List.getElem?_cons_succ, List.getElem?_cons_zero, List.replicate, ite_and', ite_or', ite_int', nI_leI, nI_ltI, nI_eq, nI_add, nI_1, pk_mul, nI_clamp, n_in', nI_pos', nI_pos, n_m1e, n_01, n_10, sT_98, sT_99, sT_100, sT_101, sT_102, sT_103, sT_104, sT_105, sT_106, sT_107, sT_108, sT_109, sT_110, sT_111, sT_112, sT_113, sT_114, sT_115, sT_116, sT_117, sT_118, sT_119, sT_120, sT_121, sT_122, sT_123, sT_124, sT_125, sT_126, sT_127, sT_128, sT_129, sT_130, sT_131, sT_132, sT_133, sT_134, sT_135, sT_136, sT_137, sT_138, sT_139, sT_140, sR_98_1, sR_98_4, sR_98_5, sR_98_6, sR_98_7, sR_98_8, sR_98_9, sR_98_10, sR_98_12, sR_98_13, sR_98_14, sR_98_15, sR_98_16, sR_98_17, sR_98_18, sR_98_19, sR_98_20, sR_98_21, sR_98_22, sR_98_23, sR_98_24, sR_98_25, sR_98_26, sR_98_27, sR_98_28, sR_98_29, sR_98_31, sR_98_34, sR_98_35, sR_98_36, sR_98_42, sR_98_44, sR_98_45, sR_98_47, sR_98_49, sR_98_51, sR_98_56, sR_98_58, sR_98_62, sR_98_65, sR_98_66, sR_98_69, hh0, c30, ei]
    exact ⟨Or.inl nI_0, nI_0⟩
