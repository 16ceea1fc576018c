/-! the reference's small methods with loops -/
def sPlc (A : AS) (b : Nat) : Option Nat := fst1 (fun k => (aLl A (aPe A b)).getD k 0 == b) (aLl A (aPe A b)).length
def sCpl (A : AS) (p : Nat) : Option Nat := fst1 (fun c => aC1 A c == p || aC2 A c == p) (aNc A)
def sBnd (A : AS) (S p : Nat) : Option Nat := fst1 (fun b => S.testBit b && aPe A b == p) (aNb A)
def sRnk (A : AS) (S p : Nat) : Option Nat := match sBnd A S p with
  | none => some (aLl A p).length
  | some b => sPlc A b
def sRkc (A : AS) (S c : Nat) : Option Nat := match sBnd A S (aC1 A c), sBnd A S (aC2 A c) with
  | none, none => some (aPl A c).length
  | a, b => fst1 (fun k => (aPl A c).getD k (none, none) == (a, b)) (aPl A c).length
def sOff (A : AS) (f : Nat) : Nat := nfo (fun b m => if aOf A b == f then m ||| 2 ^ b else m) (aNb A) 0
def sPay (A : AS) (S : Nat) : Nat := nfo (fun b s => s + if S.testBit b then aPa A b else 0) (aNb A) 0
def sPpl (A : AS) (S : Nat) : Nat := pplOf (aPe A) S (aNb A)
theorem oI_inj {x y : Option Nat} (hx : ∀ n, x = some n → n < 2 ^ 31) (hy : ∀ n, y = some n → n < 2 ^ 31) : oI x = oI y ↔ x = y := by
  cases x with
  | none =>
    cases y with
    | none => simp
    | some m =>
      have := n_m1e (hy m rfl)
      simp only [oI, reduceCtorEq, iff_false]
      intro q
      rw [← q] at this
      simp at this
  | some n =>
    cases y with
    | none =>
      have := n_m1e (hx n rfl)
      simp [oI, this]
    | some m => simp [oI, nI_eq (hx n rfl) (hy m rfl)]
theorem sPlc_lt {A : AS} (w : WF A) {b k : Nat} (h : sPlc A b = some k) : k < 5 := by
  have := fst1_lt h
  have := (w.2.2.2.1 (aPe A b)).2.1
  omega
theorem sBnd_lt {A : AS} (w : WF A) {S p b : Nat} (h : sBnd A S p = some b) : b < aNb A := fst1_lt h
theorem e_M_many (h : jHp) {x : Nat} (hx : x < 2 ^ 32) : f_M_many [.int (nI x)] h = some (some (.int (nI (popN 32 x))), h) := by
  simp [f_M_many, body_M_many, j_meth, j_out, j_rok, j_pad, lg_sl, s_seq, s_if, jb, x_c, x_iloc, x_aloc, x_lloc, x_bin, x_un, o_add, o_sub, o_mul, o_and, o_or, o_xor, o_shl, o_shr, o_ushr, o_max, o_min, o_i2b, o_i2c, o_i2l, o_l2i, x_fld, j_fget, x_idx, j_aget, x_len, j_alen, x_ofb, x_ite, xs_nil, xs_cons, x_callv, x_calls, s_callv, s_calls, j_recv, j_ret, j_retv, b_cmp, b_and, b_or, b_not, b_ofi, b_ite, b_true, s_skip, s_set, j_ty, j_lset, j_kill, s_inc, s_fput, j_fput, s_fop, s_aput, j_aput, j_nar, s_aop, s_ret, s_retv, s_go, s_pop, x_linc, x_finc, Value.category, if_icmp.holds, List.flatMap_cons, List.flatMap_nil, List.length_cons, List.length_append, List.length_nil, List.set_cons_succ, List.set_cons_zero, List.getElem?_cons_succ, List.getElem?_cons_zero, List.replicate, e_J_bitCount h hx]
theorem e_M_placeOf {A : AS} {h : jHp} (hs : Shape h) (w : WF A) (rb : RMb A h) (rl : RMl A h) {b : Nat} (hb : b < aNb A) : f_M_placeOf [.ref 98, .int (nI b)] h = some (some (.int (oI (sPlc A b))), h) := by
  have h20 := w.2.2.1.1
  have hnp := w.1.1
  obtain ⟨q1, -⟩ := rb.2.2 b hb
  have hp7 : aPe A b < 7 := by have := (w.2.2.1.2.1 b hb).1; omega
  obtain ⟨q2, q3⟩ := rl (aPe A b) hp7
  have hl5 := (w.2.2.2.1 (aPe A b)).2.1
  have hmem := (w.2.2.2.1 (aPe A b)).2.2.2
  unfold sPlc
  generalize hp : aPe A b = p at *
  generalize hl : aLl A p = l at *
  have hL := loop_1 (lb := 1) (lc := 2) (c := lc_M_placeOf_1) (b := lb_M_placeOf_1) (u := lu_M_placeOf_1) l.length (fun i => (([.ref 98, .int (nI b), .int (nI p), .int (nI i)], h) : jS)) (fun k => l.getD k 0 == b) (fun i => (.inr (some (.int (nI i))), ([.ref 98, .int (nI b), .int (nI p), .int (nI i)], h)))
    (fun i hi hp => by
      have e := q3 i hi
      rw [beq_iff_eq] at hp
      rw [hp] at e
      simp (disch := first | assumption | omega) [lstp, lc_M_placeOf_1, lb_M_placeOf_1, j_meth, j_out, j_rok, j_pad, lg_sl, s_seq, s_if, jb, x_c, x_iloc, x_aloc, x_lloc, x_bin, x_un, o_add, o_sub, o_mul, o_and, o_or, o_xor, o_shl, o_shr, o_ushr, o_max, o_min, o_i2b, o_i2c, o_i2l, o_l2i, x_fld, j_fget, x_idx, j_aget, x_len, j_alen, x_ofb, x_ite, xs_nil, xs_cons, x_callv, x_calls, s_callv, s_calls, j_recv, j_ret, j_retv, b_cmp, b_and, b_or, b_not, b_ofi, b_ite, b_true, s_skip, s_set, j_ty, j_lset, j_kill, s_inc, s_fput, j_fput, s_fop, s_aput, j_aput, j_nar, s_aop, s_ret, s_retv, s_go, s_pop, x_linc, x_finc, Value.category, if_icmp.holds, List.flatMap_cons, List.flatMap_nil, List.length_cons, List.length_append, List.length_nil, List.set_cons_succ, List.set_cons_zero, List.getElem?_cons_succ, List.getElem?_cons_zero, List.replicate, ite_and', ite_or', ite_int', nI_leI, nI_ltI, nI_eq, nI_add, nI_1, pk_mul, nI_clamp, n_in', nI_pos', nI_pos, n_m1e, n_01, n_10, sT_98, sT_99, sT_100, sT_101, sT_102, sT_103, sT_104, sT_105, sT_106, sT_107, sT_108, sT_109, sT_110, sT_111, sT_112, sT_113, sT_114, sT_115, sT_116, sT_117, sT_118, sT_119, sT_120, sT_121, sT_122, sT_123, sT_124, sT_125, sT_126, sT_127, sT_128, sT_129, sT_130, sT_131, sT_132, sT_133, sT_134, sT_135, sT_136, sT_137, sT_138, sT_139, sT_140, sR_98_1, sR_98_4, sR_98_5, sR_98_6, sR_98_7, sR_98_8, sR_98_9, sR_98_10, sR_98_12, sR_98_13, sR_98_14, sR_98_15, sR_98_16, sR_98_17, sR_98_18, sR_98_19, sR_98_20, sR_98_21, sR_98_22, sR_98_23, sR_98_24, sR_98_25, sR_98_26, sR_98_27, sR_98_28, sR_98_29, sR_98_31, sR_98_34, sR_98_35, sR_98_36, sR_98_42, sR_98_44, sR_98_45, sR_98_47, sR_98_49, sR_98_51, sR_98_56, sR_98_58, sR_98_62, sR_98_65, sR_98_66, sR_98_69, hs, q2, hi, e])
    (fun i hi hp => by
      have e := q3 i hi
      have hx := (hmem _ (getD_mem' (d := 0) hi)).1
      have hne : ¬ l.getD i 0 = b := by simpa using hp
      generalize l.getD i 0 = x at *
      simp (disch := first | assumption | omega) [lstp, lc_M_placeOf_1, lb_M_placeOf_1, lu_M_placeOf_1, j_meth, j_out, j_rok, j_pad, lg_sl, s_seq, s_if, jb, x_c, x_iloc, x_aloc, x_lloc, x_bin, x_un, o_add, o_sub, o_mul, o_and, o_or, o_xor, o_shl, o_shr, o_ushr, o_max, o_min, o_i2b, o_i2c, o_i2l, o_l2i, x_fld, j_fget, x_idx, j_aget, x_len, j_alen, x_ofb, x_ite, xs_nil, xs_cons, x_callv, x_calls, s_callv, s_calls, j_recv, j_ret, j_retv, b_cmp, b_and, b_or, b_not, b_ofi, b_ite, b_true, s_skip, s_set, j_ty, j_lset, j_kill, s_inc, s_fput, j_fput, s_fop, s_aput, j_aput, j_nar, s_aop, s_ret, s_retv, s_go, s_pop, x_linc, x_finc, Value.category, if_icmp.holds, List.flatMap_cons, List.flatMap_nil, List.length_cons, List.length_append, List.length_nil, List.set_cons_succ, List.set_cons_zero, List.getElem?_cons_succ, List.getElem?_cons_zero, List.replicate, ite_and', ite_or', ite_int', nI_leI, nI_ltI, nI_eq, nI_add, nI_1, pk_mul, nI_clamp, n_in', nI_pos', nI_pos, n_m1e, n_01, n_10, sT_98, sT_99, sT_100, sT_101, sT_102, sT_103, sT_104, sT_105, sT_106, sT_107, sT_108, sT_109, sT_110, sT_111, sT_112, sT_113, sT_114, sT_115, sT_116, sT_117, sT_118, sT_119, sT_120, sT_121, sT_122, sT_123, sT_124, sT_125, sT_126, sT_127, sT_128, sT_129, sT_130, sT_131, sT_132, sT_133, sT_134, sT_135, sT_136, sT_137, sT_138, sT_139, sT_140, sR_98_1, sR_98_4, sR_98_5, sR_98_6, sR_98_7, sR_98_8, sR_98_9, sR_98_10, sR_98_12, sR_98_13, sR_98_14, sR_98_15, sR_98_16, sR_98_17, sR_98_18, sR_98_19, sR_98_20, sR_98_21, sR_98_22, sR_98_23, sR_98_24, sR_98_25, sR_98_26, sR_98_27, sR_98_28, sR_98_29, sR_98_31, sR_98_34, sR_98_35, sR_98_36, sR_98_42, sR_98_44, sR_98_45, sR_98_47, sR_98_49, sR_98_51, sR_98_56, sR_98_58, sR_98_62, sR_98_65, sR_98_66, sR_98_69, hs, q2, hi, e, hne])
    (by simp (disch := first | assumption | omega) [lstp, lc_M_placeOf_1, j_meth, j_out, j_rok, j_pad, lg_sl, s_seq, s_if, jb, x_c, x_iloc, x_aloc, x_lloc, x_bin, x_un, o_add, o_sub, o_mul, o_and, o_or, o_xor, o_shl, o_shr, o_ushr, o_max, o_min, o_i2b, o_i2c, o_i2l, o_l2i, x_fld, j_fget, x_idx, j_aget, x_len, j_alen, x_ofb, x_ite, xs_nil, xs_cons, x_callv, x_calls, s_callv, s_calls, j_recv, j_ret, j_retv, b_cmp, b_and, b_or, b_not, b_ofi, b_ite, b_true, s_skip, s_set, j_ty, j_lset, j_kill, s_inc, s_fput, j_fput, s_fop, s_aput, j_aput, j_nar, s_aop, s_ret, s_retv, s_go, s_pop, x_linc, x_finc, Value.category, if_icmp.holds, List.flatMap_cons, List.flatMap_nil, List.length_cons, List.length_append, List.length_nil, List.set_cons_succ, List.set_cons_zero, List.getElem?_cons_succ, List.getElem?_cons_zero, List.replicate, ite_and', ite_or', ite_int', nI_leI, nI_ltI, nI_eq, nI_add, nI_1, pk_mul, nI_clamp, n_in', nI_pos', nI_pos, n_m1e, n_01, n_10, sT_98, sT_99, sT_100, sT_101, sT_102, sT_103, sT_104, sT_105, sT_106, sT_107, sT_108, sT_109, sT_110, sT_111, sT_112, sT_113, sT_114, sT_115, sT_116, sT_117, sT_118, sT_119, sT_120, sT_121, sT_122, sT_123, sT_124, sT_125, sT_126, sT_127, sT_128, sT_129, sT_130, sT_131, sT_132, sT_133, sT_134, sT_135, sT_136, sT_137, sT_138, sT_139, sT_140, sR_98_1, sR_98_4, sR_98_5, sR_98_6, sR_98_7, sR_98_8, sR_98_9, sR_98_10, sR_98_12, sR_98_13, sR_98_14, sR_98_15, sR_98_16, sR_98_17, sR_98_18, sR_98_19, sR_98_20, sR_98_21, sR_98_22, sR_98_23, sR_98_24, sR_98_25, sR_98_26, sR_98_27, sR_98_28, sR_98_29, sR_98_31, sR_98_34, sR_98_35, sR_98_36, sR_98_42, sR_98_44, sR_98_45, sR_98_47, sR_98_49, sR_98_51, sR_98_56, sR_98_58, sR_98_62, sR_98_65, sR_98_66, sR_98_69, hs, q2])

  cases hc : fst1 (fun k => l.getD k 0 == b) l.length with
  | none => rw [hc] at hL; simp (disch := first | assumption | omega) [f_M_placeOf, body_M_placeOf, j_meth, j_out, j_rok, j_pad, lg_sl, s_seq, s_if, jb, x_c, x_iloc, x_aloc, x_lloc, x_bin, x_un, o_add, o_sub, o_mul, o_and, o_or, o_xor, o_shl, o_shr, o_ushr, o_max, o_min, o_i2b, o_i2c, o_i2l, o_l2i, x_fld, j_fget, x_idx, j_aget, x_len, j_alen, x_ofb, x_ite, xs_nil, xs_cons, x_callv, x_calls, s_callv, s_calls, j_recv, j_ret, j_retv, b_cmp, b_and, b_or, b_not, b_ofi, b_ite, b_true, s_skip, s_set, j_ty, j_lset, j_kill, s_inc, s_fput, j_fput, s_fop, s_aput, j_aput, j_nar, s_aop, s_ret, s_retv, s_go, s_pop, x_linc, x_finc, Value.category, if_icmp.holds, List.flatMap_cons, List.flatMap_nil, List.length_cons, List.length_append, List.length_nil, List.set_cons_succ, List.set_cons_zero, List.getElem?_cons_succ, List.getElem?_cons_zero, List.replicate, ite_and', ite_or', ite_int', nI_leI, nI_ltI, nI_eq, nI_add, nI_1, pk_mul, nI_clamp, n_in', nI_pos', nI_pos, n_m1e, n_01, n_10, sT_98, sT_99, sT_100, sT_101, sT_102, sT_103, sT_104, sT_105, sT_106, sT_107, sT_108, sT_109, sT_110, sT_111, sT_112, sT_113, sT_114, sT_115, sT_116, sT_117, sT_118, sT_119, sT_120, sT_121, sT_122, sT_123, sT_124, sT_125, sT_126, sT_127, sT_128, sT_129, sT_130, sT_131, sT_132, sT_133, sT_134, sT_135, sT_136, sT_137, sT_138, sT_139, sT_140, sR_98_1, sR_98_4, sR_98_5, sR_98_6, sR_98_7, sR_98_8, sR_98_9, sR_98_10, sR_98_12, sR_98_13, sR_98_14, sR_98_15, sR_98_16, sR_98_17, sR_98_18, sR_98_19, sR_98_20, sR_98_21, sR_98_22, sR_98_23, sR_98_24, sR_98_25, sR_98_26, sR_98_27, sR_98_28, sR_98_29, sR_98_31, sR_98_34, sR_98_35, sR_98_36, sR_98_42, sR_98_44, sR_98_45, sR_98_47, sR_98_49, sR_98_51, sR_98_56, sR_98_58, sR_98_62, sR_98_65, sR_98_66, sR_98_69, hs, q1, hL, oI]
  | some k => rw [hc] at hL; simp (disch := first | assumption | omega) [f_M_placeOf, body_M_placeOf, j_meth, j_out, j_rok, j_pad, lg_sl, s_seq, s_if, jb, x_c, x_iloc, x_aloc, x_lloc, x_bin, x_un, o_add, o_sub, o_mul, o_and, o_or, o_xor, o_shl, o_shr, o_ushr, o_max, o_min, o_i2b, o_i2c, o_i2l, o_l2i, x_fld, j_fget, x_idx, j_aget, x_len, j_alen, x_ofb, x_ite, xs_nil, xs_cons, x_callv, x_calls, s_callv, s_calls, j_recv, j_ret, j_retv, b_cmp, b_and, b_or, b_not, b_ofi, b_ite, b_true, s_skip, s_set, j_ty, j_lset, j_kill, s_inc, s_fput, j_fput, s_fop, s_aput, j_aput, j_nar, s_aop, s_ret, s_retv, s_go, s_pop, x_linc, x_finc, Value.category, if_icmp.holds, List.flatMap_cons, List.flatMap_nil, List.length_cons, List.length_append, List.length_nil, List.set_cons_succ, List.set_cons_zero, List.getElem?_cons_succ, List.getElem?_cons_zero, List.replicate, ite_and', ite_or', ite_int', nI_leI, nI_ltI, nI_eq, nI_add, nI_1, pk_mul, nI_clamp, n_in', nI_pos', nI_pos, n_m1e, n_01, n_10, sT_98, sT_99, sT_100, sT_101, sT_102, sT_103, sT_104, sT_105, sT_106, sT_107, sT_108, sT_109, sT_110, sT_111, sT_112, sT_113, sT_114, sT_115, sT_116, sT_117, sT_118, sT_119, sT_120, sT_121, sT_122, sT_123, sT_124, sT_125, sT_126, sT_127, sT_128, sT_129, sT_130, sT_131, sT_132, sT_133, sT_134, sT_135, sT_136, sT_137, sT_138, sT_139, sT_140, sR_98_1, sR_98_4, sR_98_5, sR_98_6, sR_98_7, sR_98_8, sR_98_9, sR_98_10, sR_98_12, sR_98_13, sR_98_14, sR_98_15, sR_98_16, sR_98_17, sR_98_18, sR_98_19, sR_98_20, sR_98_21, sR_98_22, sR_98_23, sR_98_24, sR_98_25, sR_98_26, sR_98_27, sR_98_28, sR_98_29, sR_98_31, sR_98_34, sR_98_35, sR_98_36, sR_98_42, sR_98_44, sR_98_45, sR_98_47, sR_98_49, sR_98_51, sR_98_56, sR_98_58, sR_98_62, sR_98_65, sR_98_66, sR_98_69, hs, q1, hL, oI]
