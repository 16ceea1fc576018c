/-! going through all, in the reference -/
def sElg (A : AS) (p b : Nat) : Bool := aPe A b == p && ((sPlc A b).isSome || (sCpl A p).isSome)
def genL (A : AS) : Nat → Nat → Nat → List Nat
  | 0, _, S => [S]
  | n + 1, p, S => nfo (fun b acc => acc ++ if sElg A p b then genL A n (p + 1) (S ||| 2 ^ b) else []) (aNb A) (genL A n (p + 1) S)
def genB (A : AS) (n p S i : Nat) : List Nat := nfo (fun b acc => acc ++ if sElg A p b then genL A n (p + 1) (S ||| 2 ^ b) else []) i (genL A n (p + 1) S)
theorem genB_s (A : AS) (n p S i : Nat) : genB A n p S (i + 1) = genB A n p S i ++ if sElg A p i then genL A n (p + 1) (S ||| 2 ^ i) else [] := rfl
theorem genB_mono (A : AS) (n p S : Nat) : ∀ {i j}, i ≤ j → (genB A n p S i).length ≤ (genB A n p S j).length := by
  intro i j
  induction j with
  | zero => intro h; have : i = 0 := by omega
            subst this; exact Nat.le_refl _
  | succ j ih =>
    intro h
    by_cases e : i = j + 1
    · subst e; exact Nat.le_refl _
    · have := ih (by omega)
      rw [genB_s, List.length_append]
      omega
def sStd (A : AS) (S : Nat) : Bool := (sJdg A S).1 == 0
def insS (l : List Nat) (S : Nat) : List Nat := insL (fun i => decide (S < l.getD i 0)) S l
def gtF (A : AS) (l : List Nat) (S : Nat) : List Nat := if sStd A S then insS l S else l
theorem insS_len (l : List Nat) (S : Nat) : (insS l S).length = l.length + 1 := insL_len _ _ _
theorem gtF_len (A : AS) (l : List Nat) (S : Nat) : (gtF A l S).length ≤ l.length + 1 := by
  unfold gtF
  split
  · rw [insS_len]; exact Nat.le_refl _
  · omega
theorem gtF_fold_len (A : AS) : ∀ (L l : List Nat), (L.foldl (gtF A) l).length ≤ l.length + L.length := by
  intro L
  induction L with
  | nil => intro l; exact Nat.le_refl _
  | cons S L ih =>
    intro l
    rw [List.foldl_cons, List.length_cons]
    have h1 := ih (gtF A l S)
    have h2 := gtF_len A l S
    omega
def RSt (l : List Nat) (h : jHp) : Prop := hI h 98 63 = nI l.length ∧ (∀ k, k < l.length → hI h 137 k = nI (l.getD k 0)) ∧ ∀ x ∈ l, x < 2 ^ 20
def Wgt (a k : Nat) : Prop := Wjd a k ∨ (a = 98 ∧ (k = 63 ∨ k = 64)) ∨ a = 137
theorem Wgt_jd : ∀ a k, Wjd a k → Wgt a k := fun _ _ h => Or.inl h
theorem Wgt_cM : ∀ a k, cM a k → ¬ Wgt a k := by
  unfold cM Wgt Wjd Wmk
  intro a k h1 h2
  omega
theorem RSt_fr {l : List Nat} {W : Nat → Nat → Prop} {h h' : jHp} (r : RSt l h) (f : Fr W h h') (hW : ∀ a k, W a k → ¬ (a = 98 ∧ k = 63) ∧ a ≠ 137) : RSt l h' :=
  ⟨by rw [Fr_I f fun q => (hW _ _ q).1 ⟨rfl, rfl⟩]; exact r.1, fun k hk => by rw [Fr_I f fun q => (hW _ _ q).2 rfl]; exact r.2.1 k hk, r.2.2⟩
def W137 (a _ : Nat) : Prop := a = 137
theorem e_gt_ins {h : jHp} (hs : Shape h) (rec : jF) {S : Nat} {l : List Nat} (p f : Int32) (hS : S < 2 ^ 20) (hl : l.length < 12300) (hlb : ∀ x ∈ l, x < 2 ^ 20) (hc : ∀ j, j < l.length → hI h 137 j = nI (l.getD j 0)) :
    ∃ h', s_loop 1 2 (lc_M_goThrough_1 rec) (lb_M_goThrough_1 rec) (lu_M_goThrough_1 rec) ([.ref 98, .int p, .int (nI S), .int f, .int (nI l.length)], h) = some (.inl 0, ([.ref 98, .int p, .int (nI S), .int f, .int (nI (insP (fun i => decide (S < l.getD i 0)) l.length))], h')) ∧ Fr W137 h h' ∧ (∀ j, j < insP (fun i => decide (S < l.getD i 0)) l.length → hI h' 137 j = nI (l.getD j 0)) ∧ (∀ j, insP (fun i => decide (S < l.getD i 0)) l.length < j → j ≤ l.length → hI h' 137 j = nI (l.getD (j - 1) 0)) := by
  have hX := loop_ind (lb := 1) (lc := 2) (c := lc_M_goThrough_1 rec) (b := lb_M_goThrough_1 rec) (u := lu_M_goThrough_1 rec) (fun (t : Nat × jHp) => (([.ref 98, .int p, .int (nI S), .int f, .int (nI t.1)], t.2) : jS))
    (fun t => t.1 ≤ l.length ∧ insP (fun i => decide (S < l.getD i 0)) l.length = insP (fun i => decide (S < l.getD i 0)) t.1 ∧ Fr W137 h t.2 ∧ (∀ j, j < t.1 → hI t.2 137 j = nI (l.getD j 0)) ∧ (∀ j, t.1 < j → j ≤ l.length → hI t.2 137 j = nI (l.getD (j - 1) 0)))
    (fun _ r => ∃ h', r = (.inl 0, ([.ref 98, .int p, .int (nI S), .int f, .int (nI (insP (fun i => decide (S < l.getD i 0)) l.length))], h')) ∧ Fr W137 h h' ∧ (∀ j, j < insP (fun i => decide (S < l.getD i 0)) l.length → hI h' 137 j = nI (l.getD j 0)) ∧ (∀ j, insP (fun i => decide (S < l.getD i 0)) l.length < j → j ≤ l.length → hI h' 137 j = nI (l.getD (j - 1) 0)))
    (fun t => t.1) ?_ (l.length, h) ⟨Nat.le_refl _, rfl, Fr_refl _ _, hc, fun j h1 h2 => by simp only at h1; omega⟩
  · obtain ⟨r, h1, h', rfl, h2⟩ := hX
    exact ⟨h', h1, h2⟩
  · rintro ⟨n, h1⟩ ⟨p1, p2, p3, p4, p5⟩
    simp only at p1 p2 p3 p4 p5 ⊢
    have hs1 := Fr_shape hs p3
    cases n with
    | zero =>
      right
      refine ⟨_, ?_, h1, rfl, p3, ?_, ?_⟩
      · rw [p2]
        simp (disch := first | assumption | omega) [lstp, lc_M_goThrough_1, j_meth, j_out, j_rok, j_pad, lg_sl, s_seq_w, isN_inl, isN_inr, s_if, jb, x_c, x_iloc, x_aloc, x_lloc, x_bin, x_un, o_add, o_sub, o_mul, o_and, o_or, o_xor, o_shl, o_shr, o_ushr, o_max, o_min, o_i2b, o_i2c, o_i2l, o_l2i, x_fld, j_fget, x_idx, j_aget, x_len, j_alen, x_ofb, x_ite, xs_nil, xs_cons, x_callv, x_calls, s_callv, s_calls, j_recv, j_ret, j_retv, b_cmp, b_and, b_or, b_not, b_ofi, b_ite, b_true, s_skip, s_set, j_ty, j_lset, j_kill, s_inc, s_fput, j_fput, s_fop, s_aput, j_aput, j_nar, s_aop, s_ret, s_retv, s_go, s_pop, x_linc, x_finc, Value.category, if_icmp.holds, List.flatMap_cons, List.flatMap_nil, List.length_cons, List.length_append, List.length_nil, List.set_cons_succ, List.set_cons_zero, List.getElem?_cons_succ, List.getElem?_cons_zero, List.replicate, ite_and', ite_or', ite_int', nI_leI, nI_ltI, nI_eq, nI_add, nI_1, pk_mul, nI_clamp, n_in', nI_pos', nI_pos, n_m1e, n_01, n_10, sT_98, sT_99, sT_100, sT_101, sT_102, sT_103, sT_104, sT_105, sT_106, sT_107, sT_108, sT_109, sT_110, sT_111, sT_112, sT_113, sT_114, sT_115, sT_116, sT_117, sT_118, sT_119, sT_120, sT_121, sT_122, sT_123, sT_124, sT_125, sT_126, sT_127, sT_128, sT_129, sT_130, sT_131, sT_132, sT_133, sT_134, sT_135, sT_136, sT_137, sT_138, sT_139, sT_140, sR_98_1, sR_98_4, sR_98_5, sR_98_6, sR_98_7, sR_98_8, sR_98_9, sR_98_10, sR_98_12, sR_98_13, sR_98_14, sR_98_15, sR_98_16, sR_98_17, sR_98_18, sR_98_19, sR_98_20, sR_98_21, sR_98_22, sR_98_23, sR_98_24, sR_98_25, sR_98_26, sR_98_27, sR_98_28, sR_98_29, sR_98_31, sR_98_34, sR_98_35, sR_98_36, sR_98_42, sR_98_44, sR_98_45, sR_98_47, sR_98_49, sR_98_51, sR_98_56, sR_98_58, sR_98_62, sR_98_65, sR_98_66, sR_98_69, nI_0, insP]
      · rw [p2]; intro j hj; simp only [insP] at hj; omega
      · rw [p2]; exact p5
    | succ n =>
      have e := p4 n (by omega)
      have hx := hlb _ (getD_mem' (l := l) (i := n) (d := 0) (by omega))
      have h0 : (0 : Int32) < nI (n + 1) := by rw [← nI_0]; exact (nI_ltI (by omega) (by omega)).mpr (by omega)
      have e8 : nI (n + 1) - nI 1 = nI n := pk_sub (by omega)
      have e9 : nI (n + 1) + -1 = nI n := by
        have : (-1 : Int32) = - nI 1 := by decide
        rw [this, ← Int32.sub_eq_add_neg]
        exact pk_sub (by omega)
      by_cases hp : S < l.getD n 0
      · left
        refine ⟨(n, hSetI h1 137 (n + 1) (nI (l.getD n 0))), ⟨by simp only; omega, ?_, Fr_trans p3 (Fr_set _ rfl), ?_, ?_⟩, by simp only; omega, ?_, fun r hr => hr⟩
        · simp only
          rw [p2]
          simp only [insP, hp, decide_true, if_true]
        · simp only
          intro j hj
          rw [hI_setI, if_neg (by omega)]
          exact p4 j (by omega)
        · simp only
          intro j h2 h3
          rw [hI_setI]
          by_cases hj : j = n + 1
          · subst hj; simp
          · rw [if_neg (by omega)]
            exact p5 j (by omega) h3
        · generalize l.getD n 0 = x at *
          simp (disch := first | assumption | omega) [lstp, lc_M_goThrough_1, lb_M_goThrough_1, lu_M_goThrough_1, j_meth, j_out, j_rok, j_pad, lg_sl, s_seq_w, isN_inl, isN_inr, s_if, jb, x_c, x_iloc, x_aloc, x_lloc, x_bin, x_un, o_add, o_sub, o_mul, o_and, o_or, o_xor, o_shl, o_shr, o_ushr, o_max, o_min, o_i2b, o_i2c, o_i2l, o_l2i, x_fld, j_fget, x_idx, j_aget, x_len, j_alen, x_ofb, x_ite, xs_nil, xs_cons, x_callv, x_calls, s_callv, s_calls, j_recv, j_ret, j_retv, b_cmp, b_and, b_or, b_not, b_ofi, b_ite, b_true, s_skip, s_set, j_ty, j_lset, j_kill, s_inc, s_fput, j_fput, s_fop, s_aput, j_aput, j_nar, s_aop, s_ret, s_retv, s_go, s_pop, x_linc, x_finc, Value.category, if_icmp.holds, List.flatMap_cons, List.flatMap_nil, List.length_cons, List.length_append, List.length_nil, List.set_cons_succ, List.set_cons_zero, List.getElem?_cons_succ, List.getElem?_cons_zero, List.replicate, ite_and', ite_or', ite_int', nI_leI, nI_ltI, nI_eq, nI_add, nI_1, pk_mul, nI_clamp, n_in', nI_pos', nI_pos, n_m1e, n_01, n_10, sT_98, sT_99, sT_100, sT_101, sT_102, sT_103, sT_104, sT_105, sT_106, sT_107, sT_108, sT_109, sT_110, sT_111, sT_112, sT_113, sT_114, sT_115, sT_116, sT_117, sT_118, sT_119, sT_120, sT_121, sT_122, sT_123, sT_124, sT_125, sT_126, sT_127, sT_128, sT_129, sT_130, sT_131, sT_132, sT_133, sT_134, sT_135, sT_136, sT_137, sT_138, sT_139, sT_140, sR_98_1, sR_98_4, sR_98_5, sR_98_6, sR_98_7, sR_98_8, sR_98_9, sR_98_10, sR_98_12, sR_98_13, sR_98_14, sR_98_15, sR_98_16, sR_98_17, sR_98_18, sR_98_19, sR_98_20, sR_98_21, sR_98_22, sR_98_23, sR_98_24, sR_98_25, sR_98_26, sR_98_27, sR_98_28, sR_98_29, sR_98_31, sR_98_34, sR_98_35, sR_98_36, sR_98_42, sR_98_44, sR_98_45, sR_98_47, sR_98_49, sR_98_51, sR_98_56, sR_98_58, sR_98_62, sR_98_65, sR_98_66, sR_98_69, h0, e8, e9, e, hp]
      · right
        have hpos : insP (fun i => decide (S < l.getD i 0)) l.length = n + 1 := by rw [p2]; simp only [insP, hp]; simp
        rw [hpos]
        refine ⟨_, ?_, h1, rfl, p3, p4, p5⟩
        generalize l.getD n 0 = x at *
        simp (disch := first | assumption | omega) [lstp, lc_M_goThrough_1, lb_M_goThrough_1, lu_M_goThrough_1, j_meth, j_out, j_rok, j_pad, lg_sl, s_seq_w, isN_inl, isN_inr, s_if, jb, x_c, x_iloc, x_aloc, x_lloc, x_bin, x_un, o_add, o_sub, o_mul, o_and, o_or, o_xor, o_shl, o_shr, o_ushr, o_max, o_min, o_i2b, o_i2c, o_i2l, o_l2i, x_fld, j_fget, x_idx, j_aget, x_len, j_alen, x_ofb, x_ite, xs_nil, xs_cons, x_callv, x_calls, s_callv, s_calls, j_recv, j_ret, j_retv, b_cmp, b_and, b_or, b_not, b_ofi, b_ite, b_true, s_skip, s_set, j_ty, j_lset, j_kill, s_inc, s_fput, j_fput, s_fop, s_aput, j_aput, j_nar, s_aop, s_ret, s_retv, s_go, s_pop, x_linc, x_finc, Value.category, if_icmp.holds, List.flatMap_cons, List.flatMap_nil, List.length_cons, List.length_append, List.length_nil, List.set_cons_succ, List.set_cons_zero, List.getElem?_cons_succ, List.getElem?_cons_zero, List.replicate, ite_and', ite_or', ite_int', nI_leI, nI_ltI, nI_eq, nI_add, nI_1, pk_mul, nI_clamp, n_in', nI_pos', nI_pos, n_m1e, n_01, n_10, sT_98, sT_99, sT_100, sT_101, sT_102, sT_103, sT_104, sT_105, sT_106, sT_107, sT_108, sT_109, sT_110, sT_111, sT_112, sT_113, sT_114, sT_115, sT_116, sT_117, sT_118, sT_119, sT_120, sT_121, sT_122, sT_123, sT_124, sT_125, sT_126, sT_127, sT_128, sT_129, sT_130, sT_131, sT_132, sT_133, sT_134, sT_135, sT_136, sT_137, sT_138, sT_139, sT_140, sR_98_1, sR_98_4, sR_98_5, sR_98_6, sR_98_7, sR_98_8, sR_98_9, sR_98_10, sR_98_12, sR_98_13, sR_98_14, sR_98_15, sR_98_16, sR_98_17, sR_98_18, sR_98_19, sR_98_20, sR_98_21, sR_98_22, sR_98_23, sR_98_24, sR_98_25, sR_98_26, sR_98_27, sR_98_28, sR_98_29, sR_98_31, sR_98_34, sR_98_35, sR_98_36, sR_98_42, sR_98_44, sR_98_45, sR_98_47, sR_98_49, sR_98_51, sR_98_56, sR_98_58, sR_98_62, sR_98_65, sR_98_66, sR_98_69, h0, e8, e, hp]
theorem insS_mem {l : List Nat} {S x : Nat} (h : x ∈ insS l S) : x = S ∨ x ∈ l := insL_mem h
theorem RSt_ins {l : List Nat} {S : Nat} {h h' : jHp} (hl : l.length < 12300) (hS : S < 2 ^ 20) (hlb : ∀ x ∈ l, x < 2 ^ 20) (e1 : hI h' 98 63 = nI (l.length + 1)) (e2 : ∀ j, j < insP (fun i => decide (S < l.getD i 0)) l.length → hI h 137 j = nI (l.getD j 0)) (e3 : ∀ j, insP (fun i => decide (S < l.getD i 0)) l.length < j → j ≤ l.length → hI h 137 j = nI (l.getD (j - 1) 0))
    (e4 : ∀ j, hI h' 137 j = if j = insP (fun i => decide (S < l.getD i 0)) l.length then nI S else hI h 137 j) : RSt (insS l S) h' := by
  refine ⟨by rw [insS_len]; exact e1, fun k hk => ?_, fun x hx => ?_⟩
  · rw [insS_len] at hk
    unfold insS
    rw [insL_get _ _ _ _ (by omega), e4]
    by_cases h1 : k < insP (fun i => decide (S < l.getD i 0)) l.length
    · rw [if_pos h1, if_neg (by omega)]; exact e2 k h1
    · rw [if_neg h1]
      by_cases h2 : k = insP (fun i => decide (S < l.getD i 0)) l.length
      · rw [if_pos h2, if_pos h2]
      · rw [if_neg h2, if_neg h2]; exact e3 k (by omega) (by omega)
  · rcases insS_mem hx with rfl | hx
    · exact hS
    · exact hlb x hx
