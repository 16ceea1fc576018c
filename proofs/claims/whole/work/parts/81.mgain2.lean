def sGnN (A : AS) (p : Nat) (hon : Int32) : Option Nat := fst1 (fun n => (lieF A p hon (n + 1) []).isSome) 5
def vGain (A : AS) (rw : List Int32) (x : Int32) : Int32 × List Int32 := if j_in x (aNp A) ∧ sCpl A x.toNatClampNeg = none then (match sOuV A none none none with
  | none => (0, rw)
  | some v => match sGnN A x.toNatClampNeg (oI (sRnk A v x.toNatClampNeg)) with
    | none => (0, rw)
    | some n => (1, ((lieF A x.toNatClampNeg (oI (sRnk A v x.toNatClampNeg)) (n + 1) []).getD []).map nI)) else (-1, rw)
def Wga (a k : Nat) : Prop := Wop a k ∨ (a = 98 ∧ k = 57)
theorem Wli_ga : ∀ a k, Wli a k → Wga a k := by unfold Wli Wof Wmk Wga Wop; intro a k; omega
theorem Wop_ga : ∀ a k, Wop a k → Wga a k := fun _ _ h => Or.inl h
theorem ga_fin {A : AS} {tx : List Nat} {rw rw' : List Int32} {h h1 : jHp} (r : RMX A tx rw h) (m : MW Wga A h h1) (r' : RRw rw' h1) (h57 : hI h1 98 57 = -1) : RMX A tx rw' h1 ∧ Fr WM h h1 := by
  have e : ∀ a k, (a = 124 ∨ (a = 98 ∧ (k = 30 ∨ k = 60 ∨ k = 61))) → hI h1 a k = hI h a k := fun a k q => Fr_I m.1 (by unfold Wga Wop; omega)
  exact ⟨⟨m.2.1, m.2.2, RTx_eq r.2.2.1 (e _ _ (by simp)) (fun k => e _ _ (by simp)), r', ⟨h57, fun q hq => (by cases hq), by rw [e 98 60 (by simp)]; exact r.2.2.2.2.2.2.1, by rw [e 98 61 (by simp)]; exact r.2.2.2.2.2.2.2⟩⟩, Fr_mono m.1 (by unfold Wga Wop WM; intro a k; omega)⟩
noncomputable def gaT2 : jSt := (s_seq (s_fput 12 0 0 57 (x_aloc 0) (x_c (.int (-1)))) (s_seq (s_if (b_cmp .gt (x_iloc 3) (x_c (.int (nI 5)))) (s_ret (x_c (.int (nI 0)))) s_skip) (s_seq (s_fput 12 0 0 32 (x_aloc 0) (x_c (.int (nI 0)))) (s_seq (s_seq (s_set 0 4 (x_c (.int (nI 0)))) (s_loop 3 4 (lc_M_gain_2) (lb_M_gain_2) (lu_M_gain_2))) (s_ret (x_c (.int (nI 1))))))))
noncomputable def gaT1 : jSt := (s_seq (s_fput 12 0 0 57 (x_aloc 0) (x_iloc 1)) (s_seq (s_set 0 3 (x_c (.int (nI 1)))) (s_seq (s_loop 1 2 (lc_M_gain_1) (lb_M_gain_1) (lu_M_gain_1)) gaT2)))
theorem ga_body : body_M_gain = (s_seq (s_fput 12 0 0 33 (x_aloc 0) (x_c (.int (nI 0)))) (s_seq (s_if (b_or (b_not (b_ofi (x_callv 12 f_M_isPerson (xs_cons (x_aloc 0) (xs_cons (x_iloc 1) xs_nil))))) (b_cmp .ne (x_callv 12 f_M_coupleOf (xs_cons (x_aloc 0) (xs_cons (x_iloc 1) xs_nil))) (x_c (.int (-1))))) (s_ret (x_c (.int (-1)))) s_skip) (s_seq (s_set 0 2 (x_callv 12 f_M_outcome (xs_cons (x_aloc 0) xs_nil))) (s_seq (s_if (b_cmp .lt (x_iloc 2) (x_c (.int 0))) (s_ret (x_c (.int (nI 0)))) s_skip) (s_seq (s_fput 12 0 0 70 (x_aloc 0) (x_callv 12 f_M_rank (xs_cons (x_aloc 0) (xs_cons (x_iloc 2) (xs_cons (x_iloc 1) xs_nil))))) gaT1))))) := rfl
theorem e_gain_2 {A : AS} {h0 h : jHp} {l : List Nat} {n : Nat} (hl : l.length = n) (hn5 : n ≤ 5) (hlb : ∀ x ∈ l, x < 2 ^ 31) (m : MW Wga A h0 h) (rl : RLi l h) (rr : RRw [] h) (p v : Int32) : ∃ h' v4, s_loop 3 4 lc_M_gain_2 lb_M_gain_2 lu_M_gain_2 ([.ref 98, .int p, .int v, .int (nI n), .int (nI 0)], h) = some (.inl 0, ([.ref 98, .int p, .int v, .int (nI n), v4], h')) ∧ MW Wga A h0 h' ∧ RRw (l.map nI) h' ∧ hI h' 98 57 = hI h 98 57 := by
  have hX := loop_wp (lb := 3) (lc := 4) (c := lc_M_gain_2) (b := lb_M_gain_2) (u := lu_M_gain_2) n
    (fun i st => ∃ h', st = ([.ref 98, .int p, .int v, .int (nI n), .int (nI i)], h') ∧ MW Wga A h0 h' ∧ RRw ((l.take i).map nI) h' ∧ RLi l h' ∧ hI h' 98 57 = hI h 98 57)
    (fun r => ∃ h' v4, r = (.inl 0, ([.ref 98, .int p, .int v, .int (nI n), v4], h')) ∧ MW Wga A h0 h' ∧ RRw (l.map nI) h' ∧ hI h' 98 57 = hI h 98 57)
    ?_ ?_ ([.ref 98, .int p, .int v, .int (nI n), .int (nI 0)], h) ⟨h, rfl, m, rr, rl, rfl⟩
  · obtain ⟨r, e, h', v4, rfl, g⟩ := hX
    exact ⟨h', v4, e, g⟩
  · rintro i st hi ⟨h1, rfl, m1, rr1, rl1, g1⟩
    left
    have hs1 := m1.2.1.1
    have g := rl1 i (by omega)
    obtain ⟨h2, e2, r2, f2⟩ := e_M_tell hs1 rr1 (by rw [List.length_map, List.length_take]; omega) (nI (l.getD i 0))
    rw [← take_succ_map (by omega)] at r2
    refine ⟨([.ref 98, .int p, .int v, .int (nI n), .int (nI (i + 1))], h2), ?_, h2, rfl, MW_rw m1 f2 (fun a k q => Wop_ga a k (Wrw_op a k q)), r2, RLi_fr rl1 f2 (by unfold Wrw; intro a k; omega), by rw [Fr_I f2 (by simp [Wrw])]; exact g1⟩
    generalize l.getD i 0 = y at *
    simp (disch := first | assumption | omega) [lstp, lc_M_gain_2, lb_M_gain_2, lu_M_gain_2, j_meth, j_out, j_rok, j_pad, lg_sl, s_seq_w, isN_inl, isN_inr, s_if, jb, x_c, x_iloc, x_aloc, x_lloc, x_bin, x_un, o_add, o_sub, o_mul, o_and, o_or, o_xor, o_shl, o_shr, o_ushr, o_max, o_min, o_i2b, o_i2c, o_i2l, o_l2i, x_fld, j_fget, x_idx, j_aget, x_len, j_alen, x_ofb, x_ite, xs_nil, xs_cons, x_callv, x_calls, s_callv, s_calls, j_recv, j_ret, j_retv, b_cmp, b_and, b_or, b_not, b_ofi, b_ite, b_true, s_skip, s_set, j_ty, j_lset, j_kill, s_inc, s_fput, j_fput, s_fop, s_aput, j_aput, j_nar, s_aop, s_ret, s_retv, s_go, s_pop, x_linc, x_finc, Value.category, if_icmp.holds, List.flatMap_cons, List.flatMap_nil, List.length_cons, List.length_append, List.length_nil, List.set_cons_succ, List.set_cons_zero, List.getElem?_cons_succ, List.getElem?_cons_zero, List.replicate, ite_and', ite_or', ite_int', nI_leI, nI_ltI, nI_eq, nI_add, nI_1, pk_mul, nI_clamp, n_in', nI_pos', nI_pos, n_m1e, n_01, n_10, sT_98, sT_99, sT_100, sT_101, sT_102, sT_103, sT_104, sT_105, sT_106, sT_107, sT_108, sT_109, sT_110, sT_111, sT_112, sT_113, sT_114, sT_115, sT_116, sT_117, sT_118, sT_119, sT_120, sT_121, sT_122, sT_123, sT_124, sT_125, sT_126, sT_127, sT_128, sT_129, sT_130, sT_131, sT_132, sT_133, sT_134, sT_135, sT_136, sT_137, sT_138, sT_139, sT_140, sR_98_1, sR_98_4, sR_98_5, sR_98_6, sR_98_7, sR_98_8, sR_98_9, sR_98_10, sR_98_12, sR_98_13, sR_98_14, sR_98_15, sR_98_16, sR_98_17, sR_98_18, sR_98_19, sR_98_20, sR_98_21, sR_98_22, sR_98_23, sR_98_24, sR_98_25, sR_98_26, sR_98_27, sR_98_28, sR_98_29, sR_98_31, sR_98_34, sR_98_35, sR_98_36, sR_98_42, sR_98_44, sR_98_45, sR_98_47, sR_98_49, sR_98_51, sR_98_56, sR_98_58, sR_98_62, sR_98_65, sR_98_66, sR_98_69, hi, g, e2]
  · rintro st ⟨h1, rfl, m1, rr1, rl1, g1⟩
    have hs1 := m1.2.1.1
    have ht : l.take n = l := by rw [← hl]; exact List.take_length
    rw [ht] at rr1
    refine ⟨_, ?_, h1, .int (nI n), rfl, m1, rr1, g1⟩
    simp (disch := first | assumption | omega) [lstp, lc_M_gain_2, lb_M_gain_2, lu_M_gain_2, j_meth, j_out, j_rok, j_pad, lg_sl, s_seq_w, isN_inl, isN_inr, s_if, jb, x_c, x_iloc, x_aloc, x_lloc, x_bin, x_un, o_add, o_sub, o_mul, o_and, o_or, o_xor, o_shl, o_shr, o_ushr, o_max, o_min, o_i2b, o_i2c, o_i2l, o_l2i, x_fld, j_fget, x_idx, j_aget, x_len, j_alen, x_ofb, x_ite, xs_nil, xs_cons, x_callv, x_calls, s_callv, s_calls, j_recv, j_ret, j_retv, b_cmp, b_and, b_or, b_not, b_ofi, b_ite, b_true, s_skip, s_set, j_ty, j_lset, j_kill, s_inc, s_fput, j_fput, s_fop, s_aput, j_aput, j_nar, s_aop, s_ret, s_retv, s_go, s_pop, x_linc, x_finc, Value.category, if_icmp.holds, List.flatMap_cons, List.flatMap_nil, List.length_cons, List.length_append, List.length_nil, List.set_cons_succ, List.set_cons_zero, List.getElem?_cons_succ, List.getElem?_cons_zero, List.replicate, ite_and', ite_or', ite_int', nI_leI, nI_ltI, nI_eq, nI_add, nI_1, pk_mul, nI_clamp, n_in', nI_pos', nI_pos, n_m1e, n_01, n_10, sT_98, sT_99, sT_100, sT_101, sT_102, sT_103, sT_104, sT_105, sT_106, sT_107, sT_108, sT_109, sT_110, sT_111, sT_112, sT_113, sT_114, sT_115, sT_116, sT_117, sT_118, sT_119, sT_120, sT_121, sT_122, sT_123, sT_124, sT_125, sT_126, sT_127, sT_128, sT_129, sT_130, sT_131, sT_132, sT_133, sT_134, sT_135, sT_136, sT_137, sT_138, sT_139, sT_140, sR_98_1, sR_98_4, sR_98_5, sR_98_6, sR_98_7, sR_98_8, sR_98_9, sR_98_10, sR_98_12, sR_98_13, sR_98_14, sR_98_15, sR_98_16, sR_98_17, sR_98_18, sR_98_19, sR_98_20, sR_98_21, sR_98_22, sR_98_23, sR_98_24, sR_98_25, sR_98_26, sR_98_27, sR_98_28, sR_98_29, sR_98_31, sR_98_34, sR_98_35, sR_98_36, sR_98_42, sR_98_44, sR_98_45, sR_98_47, sR_98_49, sR_98_51, sR_98_56, sR_98_58, sR_98_62, sR_98_65, sR_98_66, sR_98_69]
theorem lieF_mem {A : AS} {p : Nat} {hon : Int32} : ∀ d pre l, lieF A p hon d pre = some l → (∀ x ∈ pre, x < aNb A) → ∀ x ∈ l, x < aNb A := by
  intro d
  induction d with
  | zero =>
    intro pre l h hp
    unfold lieF at h
    split at h
    · cases h; exact hp
    · cases h
  | succ d ih =>
    intro pre l h hp
    unfold lieF fsO at h
    split at h
    · rename_i b hb
      have hlt := fst1_lt hb
      simp only at h
      split at h
      · exact ih _ _ h (fun x hx => by
          rcases List.mem_append.mp hx with q | q
          · exact hp x q
          · simp only [List.mem_singleton] at q; subst q; exact hlt)
      · cases h
    · cases h
theorem e_gain_1 {A : AS} {tx : List Nat} {rw : List Int32} {h h1 : jHp} (r : RMX A tx rw h) (m1 : MW Wga A h h1) (rr1 : RRw rw h1) {p : Nat} (hp : p < aNp A) {hon : Int32} (h70 : hI h1 98 70 = hon) (h60 : hI h1 98 60 = -1) (h61 : hI h1 98 61 = -1) (v : Int32) :
    ∃ h', j_out 1 (gaT1 ([.ref 98, .int (nI p), .int v, .null, .null], h1)) = some (some (.int (match sGnN A p hon with
      | none => 0
      | some _ => 1)), h') ∧ RMX A tx (match sGnN A p hon with
      | none => rw
      | some n => ((lieF A p hon (n + 1) []).getD []).map nI) h' ∧ Fr WM h h' := by
  have w := m1.2.1.2.1
  have hn := w.1.1
  have h20 := w.2.2.1.1
  have hs1 := m1.2.1.1
  have f2 : Fr (fun a k => a = 98 ∧ k = 57) h1 (hSetI h1 98 57 (nI p)) := Fr_set _ ⟨rfl, rfl⟩
  have m2 : MW Wga A h (hSetI h1 98 57 (nI p)) := MW_step m1 f2 (by intro a k hv; unfold Wga Wop cM; omega)
  have rr2 : RRw rw (hSetI h1 98 57 (nI p)) := RRw_eq rr1 (Fr_I f2 (by omega)) (fun k => Fr_I f2 (by omega))
  have rg2 : RG p hon (hSetI h1 98 57 (nI p)) := ⟨by rw [hI_setI, if_pos ⟨rfl, rfl⟩], by rw [Fr_I f2 (by omega)]; exact h60, by rw [Fr_I f2 (by omega)]; exact h61, by rw [Fr_I f2 (by omega)]; exact h70⟩
  generalize hh2 : hSetI h1 98 57 (nI p) = h2 at *
  have hL := loop_wp (lb := 1) (lc := 2) (c := lc_M_gain_1) (b := lb_M_gain_1) (u := lu_M_gain_1) 5
    (fun i st => ∃ h', st = ([.ref 98, .int (nI p), .int v, .int (nI (i + 1)), .null], h') ∧ MW Wga A h h' ∧ RRw rw h' ∧ RG p hon h' ∧ ∀ k, k < i → (lieF A p hon (k + 1) []).isSome = false)
    (fun r => ∃ h', MW Wga A h h' ∧ RRw rw h' ∧ ((∃ n l, n < 5 ∧ sGnN A p hon = some n ∧ lieF A p hon (n + 1) [] = some l ∧ l.length = n + 1 ∧ RLi l h' ∧ r = (.inl 0, ([.ref 98, .int (nI p), .int v, .int (nI (n + 1)), .null], h'))) ∨ (sGnN A p hon = none ∧ r = (.inl 0, ([.ref 98, .int (nI p), .int v, .int (nI 6), .null], h')))))
    ?_ ?_ ([.ref 98, .int (nI p), .int v, .int (nI 1), .null], h2) ⟨h2, rfl, m2, rr2, rg2, fun k hk => by cases hk⟩
  · obtain ⟨q, e, h3, m3, rr3, hq⟩ := hL
    have hs3 := m3.2.1.1
    have f4 : Fr (fun a k => a = 98 ∧ k = 57) h3 (hSetI h3 98 57 (-1)) := Fr_set _ ⟨rfl, rfl⟩
    have m4 : MW Wga A h (hSetI h3 98 57 (-1)) := MW_step m3 f4 (by intro a k hv; unfold Wga Wop cM; omega)
    have rr4 : RRw rw (hSetI h3 98 57 (-1)) := RRw_eq rr3 (Fr_I f4 (by omega)) (fun k => Fr_I f4 (by omega))
    have h57 : hI (hSetI h3 98 57 (-1)) 98 57 = -1 := by rw [hI_setI, if_pos ⟨rfl, rfl⟩]
    have hs4 := m4.2.1.1
    rcases hq with ⟨n, l, hn5, g1, g2, g3, g4, rfl⟩ | ⟨g1, rfl⟩
    · have rl4 := RLi_fr g4 f4 (by intro a k; omega)
      generalize hh4 : hSetI h3 98 57 (-1) = h4 at *
      have m5 : MW Wga A h (hSetI h4 98 32 (nI 0)) := MW_rw m4 (Fr_set _ (Or.inr ⟨rfl, rfl⟩)) (fun a k q => Wop_ga a k (Wrw_op a k q))
      have rl5 : RLi l (hSetI h4 98 32 (nI 0)) := RLi_fr (W := Wrw) rl4 (Fr_set _ (Or.inr ⟨rfl, rfl⟩)) (by unfold Wrw; intro a k; omega)
      have g57 : hI (hSetI h4 98 32 (nI 0)) 98 57 = -1 := by rw [hI_setI, if_neg (by omega)]; exact h57
      have hlb := lieF_mem _ _ _ g2 (fun x hx => by cases hx)
      obtain ⟨h6, v4, e6, m6, rr6, i57⟩ := e_gain_2 (l := l) (n := n + 1) g3 (by omega) (fun x hx => by have := hlb x hx; omega) m5 rl5 RRw_0 (nI p) v
      rw [g1]
      simp only [g2, Option.getD_some]
      refine ⟨h6, ?_, ga_fin r m6 rr6 (by rw [i57]; exact g57)⟩
      have hh5 : hSetI h4 98 32 0 = hSetI h4 98 32 (nI 0) := by rw [nI_0]
      have hle : ¬ 5 < n + 1 := by omega
      generalize hSetI h4 98 32 (nI 0) = h5 at *
      simp only [nI_0] at e6
      simp only [n_11] at e
      simp (disch := first | assumption | omega) [gaT1, gaT2, j_meth, j_out, j_rok, j_pad, lg_sl, s_seq_w, isN_inl, isN_inr, s_if, jb, x_c, x_iloc, x_aloc, x_lloc, x_bin, x_un, o_add, o_sub, o_mul, o_and, o_or, o_xor, o_shl, o_shr, o_ushr, o_max, o_min, o_i2b, o_i2c, o_i2l, o_l2i, x_fld, j_fget, x_idx, j_aget, x_len, j_alen, x_ofb, x_ite, xs_nil, xs_cons, x_callv, x_calls, s_callv, s_calls, j_recv, j_ret, j_retv, b_cmp, b_and, b_or, b_not, b_ofi, b_ite, b_true, s_skip, s_set, j_ty, j_lset, j_kill, s_inc, s_fput, j_fput, s_fop, s_aput, j_aput, j_nar, s_aop, s_ret, s_retv, s_go, s_pop, x_linc, x_finc, Value.category, if_icmp.holds, List.flatMap_cons, List.flatMap_nil, List.length_cons, List.length_append, List.length_nil, List.set_cons_succ, List.set_cons_zero, List.getElem?_cons_succ, List.getElem?_cons_zero, List.replicate, ite_and', ite_or', ite_int', nI_leI, nI_ltI, nI_eq, nI_add, nI_1, pk_mul, nI_clamp, n_in', nI_pos', nI_pos, n_m1e, n_01, n_10, sT_98, sT_99, sT_100, sT_101, sT_102, sT_103, sT_104, sT_105, sT_106, sT_107, sT_108, sT_109, sT_110, sT_111, sT_112, sT_113, sT_114, sT_115, sT_116, sT_117, sT_118, sT_119, sT_120, sT_121, sT_122, sT_123, sT_124, sT_125, sT_126, sT_127, sT_128, sT_129, sT_130, sT_131, sT_132, sT_133, sT_134, sT_135, sT_136, sT_137, sT_138, sT_139, sT_140, sR_98_1, sR_98_4, sR_98_5, sR_98_6, sR_98_7, sR_98_8, sR_98_9, sR_98_10, sR_98_12, sR_98_13, sR_98_14, sR_98_15, sR_98_16, sR_98_17, sR_98_18, sR_98_19, sR_98_20, sR_98_21, sR_98_22, sR_98_23, sR_98_24, sR_98_25, sR_98_26, sR_98_27, sR_98_28, sR_98_29, sR_98_31, sR_98_34, sR_98_35, sR_98_36, sR_98_42, sR_98_44, sR_98_45, sR_98_47, sR_98_49, sR_98_51, sR_98_56, sR_98_58, sR_98_62, sR_98_65, sR_98_66, sR_98_69, hh2, e, hh4, hle, nI_0, hh5, e6, n_11]
    · rw [g1]
      refine ⟨hSetI h3 98 57 (-1), ?_, ga_fin r m4 rr4 h57⟩
      simp (disch := first | assumption | omega) [gaT1, gaT2, j_meth, j_out, j_rok, j_pad, lg_sl, s_seq_w, isN_inl, isN_inr, s_if, jb, x_c, x_iloc, x_aloc, x_lloc, x_bin, x_un, o_add, o_sub, o_mul, o_and, o_or, o_xor, o_shl, o_shr, o_ushr, o_max, o_min, o_i2b, o_i2c, o_i2l, o_l2i, x_fld, j_fget, x_idx, j_aget, x_len, j_alen, x_ofb, x_ite, xs_nil, xs_cons, x_callv, x_calls, s_callv, s_calls, j_recv, j_ret, j_retv, b_cmp, b_and, b_or, b_not, b_ofi, b_ite, b_true, s_skip, s_set, j_ty, j_lset, j_kill, s_inc, s_fput, j_fput, s_fop, s_aput, j_aput, j_nar, s_aop, s_ret, s_retv, s_go, s_pop, x_linc, x_finc, Value.category, if_icmp.holds, List.flatMap_cons, List.flatMap_nil, List.length_cons, List.length_append, List.length_nil, List.set_cons_succ, List.set_cons_zero, List.getElem?_cons_succ, List.getElem?_cons_zero, List.replicate, ite_and', ite_or', ite_int', nI_leI, nI_ltI, nI_eq, nI_add, nI_1, pk_mul, nI_clamp, n_in', nI_pos', nI_pos, n_m1e, n_01, n_10, sT_98, sT_99, sT_100, sT_101, sT_102, sT_103, sT_104, sT_105, sT_106, sT_107, sT_108, sT_109, sT_110, sT_111, sT_112, sT_113, sT_114, sT_115, sT_116, sT_117, sT_118, sT_119, sT_120, sT_121, sT_122, sT_123, sT_124, sT_125, sT_126, sT_127, sT_128, sT_129, sT_130, sT_131, sT_132, sT_133, sT_134, sT_135, sT_136, sT_137, sT_138, sT_139, sT_140, sR_98_1, sR_98_4, sR_98_5, sR_98_6, sR_98_7, sR_98_8, sR_98_9, sR_98_10, sR_98_12, sR_98_13, sR_98_14, sR_98_15, sR_98_16, sR_98_17, sR_98_18, sR_98_19, sR_98_20, sR_98_21, sR_98_22, sR_98_23, sR_98_24, sR_98_25, sR_98_26, sR_98_27, sR_98_28, sR_98_29, sR_98_31, sR_98_34, sR_98_35, sR_98_36, sR_98_42, sR_98_44, sR_98_45, sR_98_47, sR_98_49, sR_98_51, sR_98_56, sR_98_58, sR_98_62, sR_98_65, sR_98_66, sR_98_69, hh2, e, nI_0]
  · rintro i st hi ⟨h3, rfl, m3, rr3, rg3, hall⟩
    obtain ⟨h4, e4, m4, rg4, g4⟩ := e_M_lie (A := A) (h0 := h3) (p := p) (hon := hon) (n := i + 1) hp (by omega) (i + 1) 8 (by omega) [] h3 (by simp) (fun x hx => by cases hx) (MW_refl m3.2.1 m3.2.2) rg3 (fun k hk => by simp at hk)
    have hs3 := m3.2.1.1
    have m4' := MW_trans m3 (MW_mono m4 Wli_ga)
    have rr4 : RRw rw h4 := RRw_mw rr3 m4 (by unfold Wli Wof Wmk Wrw; intro a k; omega)
    have hi1 : i + 1 ≤ 5 := by omega
    simp only [List.length_nil, nI_0] at e4
    cases hF : lieF A p hon (i + 1) [] with
    | some l =>
      right
      rw [hF] at e4 g4
      refine ⟨(.inl 0, ([.ref 98, .int (nI p), .int v, .int (nI (i + 1)), .null], h4)), ?_, h4, m4', rr4, Or.inl ⟨i, l, hi, fst1_of hi (by simp only [hF]; rfl) hall, hF, g4.2, g4.1, rfl⟩⟩
      simp (disch := first | assumption | omega) [lstp, lc_M_gain_1, lb_M_gain_1, lu_M_gain_1, j_meth, j_out, j_rok, j_pad, lg_sl, s_seq_w, isN_inl, isN_inr, s_if, jb, x_c, x_iloc, x_aloc, x_lloc, x_bin, x_un, o_add, o_sub, o_mul, o_and, o_or, o_xor, o_shl, o_shr, o_ushr, o_max, o_min, o_i2b, o_i2c, o_i2l, o_l2i, x_fld, j_fget, x_idx, j_aget, x_len, j_alen, x_ofb, x_ite, xs_nil, xs_cons, x_callv, x_calls, s_callv, s_calls, j_recv, j_ret, j_retv, b_cmp, b_and, b_or, b_not, b_ofi, b_ite, b_true, s_skip, s_set, j_ty, j_lset, j_kill, s_inc, s_fput, j_fput, s_fop, s_aput, j_aput, j_nar, s_aop, s_ret, s_retv, s_go, s_pop, x_linc, x_finc, Value.category, if_icmp.holds, List.flatMap_cons, List.flatMap_nil, List.length_cons, List.length_append, List.length_nil, List.set_cons_succ, List.set_cons_zero, List.getElem?_cons_succ, List.getElem?_cons_zero, List.replicate, ite_and', ite_or', ite_int', nI_leI, nI_ltI, nI_eq, nI_add, nI_1, pk_mul, nI_clamp, n_in', nI_pos', nI_pos, n_m1e, n_01, n_10, sT_98, sT_99, sT_100, sT_101, sT_102, sT_103, sT_104, sT_105, sT_106, sT_107, sT_108, sT_109, sT_110, sT_111, sT_112, sT_113, sT_114, sT_115, sT_116, sT_117, sT_118, sT_119, sT_120, sT_121, sT_122, sT_123, sT_124, sT_125, sT_126, sT_127, sT_128, sT_129, sT_130, sT_131, sT_132, sT_133, sT_134, sT_135, sT_136, sT_137, sT_138, sT_139, sT_140, sR_98_1, sR_98_4, sR_98_5, sR_98_6, sR_98_7, sR_98_8, sR_98_9, sR_98_10, sR_98_12, sR_98_13, sR_98_14, sR_98_15, sR_98_16, sR_98_17, sR_98_18, sR_98_19, sR_98_20, sR_98_21, sR_98_22, sR_98_23, sR_98_24, sR_98_25, sR_98_26, sR_98_27, sR_98_28, sR_98_29, sR_98_31, sR_98_34, sR_98_35, sR_98_36, sR_98_42, sR_98_44, sR_98_45, sR_98_47, sR_98_49, sR_98_51, sR_98_56, sR_98_58, sR_98_62, sR_98_65, sR_98_66, sR_98_69, hi1, nI_0, e4]
    | none =>
      left
      rw [hF] at e4 g4
      refine ⟨([.ref 98, .int (nI p), .int v, .int (nI (i + 1 + 1)), .null], h4), ?_, h4, rfl, m4', rr4, rg4, fun k hk => ?_⟩
      · simp (disch := first | assumption | omega) [lstp, lc_M_gain_1, lb_M_gain_1, lu_M_gain_1, j_meth, j_out, j_rok, j_pad, lg_sl, s_seq_w, isN_inl, isN_inr, s_if, jb, x_c, x_iloc, x_aloc, x_lloc, x_bin, x_un, o_add, o_sub, o_mul, o_and, o_or, o_xor, o_shl, o_shr, o_ushr, o_max, o_min, o_i2b, o_i2c, o_i2l, o_l2i, x_fld, j_fget, x_idx, j_aget, x_len, j_alen, x_ofb, x_ite, xs_nil, xs_cons, x_callv, x_calls, s_callv, s_calls, j_recv, j_ret, j_retv, b_cmp, b_and, b_or, b_not, b_ofi, b_ite, b_true, s_skip, s_set, j_ty, j_lset, j_kill, s_inc, s_fput, j_fput, s_fop, s_aput, j_aput, j_nar, s_aop, s_ret, s_retv, s_go, s_pop, x_linc, x_finc, Value.category, if_icmp.holds, List.flatMap_cons, List.flatMap_nil, List.length_cons, List.length_append, List.length_nil, List.set_cons_succ, List.set_cons_zero, List.getElem?_cons_succ, List.getElem?_cons_zero, List.replicate, ite_and', ite_or', ite_int', nI_leI, nI_ltI, nI_eq, nI_add, nI_1, pk_mul, nI_clamp, n_in', nI_pos', nI_pos, n_m1e, n_01, n_10, sT_98, sT_99, sT_100, sT_101, sT_102, sT_103, sT_104, sT_105, sT_106, sT_107, sT_108, sT_109, sT_110, sT_111, sT_112, sT_113, sT_114, sT_115, sT_116, sT_117, sT_118, sT_119, sT_120, sT_121, sT_122, sT_123, sT_124, sT_125, sT_126, sT_127, sT_128, sT_129, sT_130, sT_131, sT_132, sT_133, sT_134, sT_135, sT_136, sT_137, sT_138, sT_139, sT_140, sR_98_1, sR_98_4, sR_98_5, sR_98_6, sR_98_7, sR_98_8, sR_98_9, sR_98_10, sR_98_12, sR_98_13, sR_98_14, sR_98_15, sR_98_16, sR_98_17, sR_98_18, sR_98_19, sR_98_20, sR_98_21, sR_98_22, sR_98_23, sR_98_24, sR_98_25, sR_98_26, sR_98_27, sR_98_28, sR_98_29, sR_98_31, sR_98_34, sR_98_35, sR_98_36, sR_98_42, sR_98_44, sR_98_45, sR_98_47, sR_98_49, sR_98_51, sR_98_56, sR_98_58, sR_98_62, sR_98_65, sR_98_66, sR_98_69, hi1, nI_0, e4]
      · by_cases e : k = i
        · rw [e, hF]; rfl
        · exact hall k (by omega)
  · rintro st ⟨h3, rfl, m3, rr3, rg3, hall⟩
    have hs3 := m3.2.1.1
    have h6 : ¬ nI 6 ≤ nI 5 := by decide
    refine ⟨(.inl 0, ([.ref 98, .int (nI p), .int v, .int (nI 6), .null], h3)), ?_, h3, m3, rr3, Or.inr ⟨fst1_no hall, rfl⟩⟩
    simp (disch := first | assumption | omega) [lstp, lc_M_gain_1, lb_M_gain_1, lu_M_gain_1, j_meth, j_out, j_rok, j_pad, lg_sl, s_seq_w, isN_inl, isN_inr, s_if, jb, x_c, x_iloc, x_aloc, x_lloc, x_bin, x_un, o_add, o_sub, o_mul, o_and, o_or, o_xor, o_shl, o_shr, o_ushr, o_max, o_min, o_i2b, o_i2c, o_i2l, o_l2i, x_fld, j_fget, x_idx, j_aget, x_len, j_alen, x_ofb, x_ite, xs_nil, xs_cons, x_callv, x_calls, s_callv, s_calls, j_recv, j_ret, j_retv, b_cmp, b_and, b_or, b_not, b_ofi, b_ite, b_true, s_skip, s_set, j_ty, j_lset, j_kill, s_inc, s_fput, j_fput, s_fop, s_aput, j_aput, j_nar, s_aop, s_ret, s_retv, s_go, s_pop, x_linc, x_finc, Value.category, if_icmp.holds, List.flatMap_cons, List.flatMap_nil, List.length_cons, List.length_append, List.length_nil, List.set_cons_succ, List.set_cons_zero, List.getElem?_cons_succ, List.getElem?_cons_zero, List.replicate, ite_and', ite_or', ite_int', nI_leI, nI_ltI, nI_eq, nI_add, nI_1, pk_mul, nI_clamp, n_in', nI_pos', nI_pos, n_m1e, n_01, n_10, sT_98, sT_99, sT_100, sT_101, sT_102, sT_103, sT_104, sT_105, sT_106, sT_107, sT_108, sT_109, sT_110, sT_111, sT_112, sT_113, sT_114, sT_115, sT_116, sT_117, sT_118, sT_119, sT_120, sT_121, sT_122, sT_123, sT_124, sT_125, sT_126, sT_127, sT_128, sT_129, sT_130, sT_131, sT_132, sT_133, sT_134, sT_135, sT_136, sT_137, sT_138, sT_139, sT_140, sR_98_1, sR_98_4, sR_98_5, sR_98_6, sR_98_7, sR_98_8, sR_98_9, sR_98_10, sR_98_12, sR_98_13, sR_98_14, sR_98_15, sR_98_16, sR_98_17, sR_98_18, sR_98_19, sR_98_20, sR_98_21, sR_98_22, sR_98_23, sR_98_24, sR_98_25, sR_98_26, sR_98_27, sR_98_28, sR_98_29, sR_98_31, sR_98_34, sR_98_35, sR_98_36, sR_98_42, sR_98_44, sR_98_45, sR_98_47, sR_98_49, sR_98_51, sR_98_56, sR_98_58, sR_98_62, sR_98_65, sR_98_66, sR_98_69, h6]
theorem o_M_gain {A : AS} {tx : List Nat} {rw : List Int32} {h : jHp} (r : RMX A tx rw h) (x : Int32) : ∃ h', f_M_gain [.ref 98, .int x] h = some (some (.int (vGain A rw x).1), h') ∧ RMX A tx (vGain A rw x).2 h' ∧ Fr WM h h' := by
  have hs := r.1.1
  have w := r.1.2.1
  have hn := w.1.1
  have r0 := RMX_33 r (nI 0)
  have m0 := op_33 r
  have hs0 := r0.1.1
  have ep := e_M_isPerson hs0 w r0.1.2.2.1 x
  have k0 := r0.1
  generalize hh0 : hSetI h 98 33 (nI 0) = h0 at *
  unfold vGain
  by_cases hx : j_in x (aNp A) = true
  case neg =>
    rw [if_neg (fun q => hx q.1)]
    rw [if_neg hx] at ep
    refine ⟨h0, ?_, op_fin r m0 r0.2.2.2.1⟩
    simp (disch := first | assumption | omega) [f_M_gain, ga_body, j_meth, j_out, j_rok, j_pad, lg_sl, s_seq_w, isN_inl, isN_inr, s_if, jb, x_c, x_iloc, x_aloc, x_lloc, x_bin, x_un, o_add, o_sub, o_mul, o_and, o_or, o_xor, o_shl, o_shr, o_ushr, o_max, o_min, o_i2b, o_i2c, o_i2l, o_l2i, x_fld, j_fget, x_idx, j_aget, x_len, j_alen, x_ofb, x_ite, xs_nil, xs_cons, x_callv, x_calls, s_callv, s_calls, j_recv, j_ret, j_retv, b_cmp, b_and, b_or, b_not, b_ofi, b_ite, b_true, s_skip, s_set, j_ty, j_lset, j_kill, s_inc, s_fput, j_fput, s_fop, s_aput, j_aput, j_nar, s_aop, s_ret, s_retv, s_go, s_pop, x_linc, x_finc, Value.category, if_icmp.holds, List.flatMap_cons, List.flatMap_nil, List.length_cons, List.length_append, List.length_nil, List.set_cons_succ, List.set_cons_zero, List.getElem?_cons_succ, List.getElem?_cons_zero, List.replicate, ite_and', ite_or', ite_int', nI_leI, nI_ltI, nI_eq, nI_add, nI_1, pk_mul, nI_clamp, n_in', nI_pos', nI_pos, n_m1e, n_01, n_10, sT_98, sT_99, sT_100, sT_101, sT_102, sT_103, sT_104, sT_105, sT_106, sT_107, sT_108, sT_109, sT_110, sT_111, sT_112, sT_113, sT_114, sT_115, sT_116, sT_117, sT_118, sT_119, sT_120, sT_121, sT_122, sT_123, sT_124, sT_125, sT_126, sT_127, sT_128, sT_129, sT_130, sT_131, sT_132, sT_133, sT_134, sT_135, sT_136, sT_137, sT_138, sT_139, sT_140, sR_98_1, sR_98_4, sR_98_5, sR_98_6, sR_98_7, sR_98_8, sR_98_9, sR_98_10, sR_98_12, sR_98_13, sR_98_14, sR_98_15, sR_98_16, sR_98_17, sR_98_18, sR_98_19, sR_98_20, sR_98_21, sR_98_22, sR_98_23, sR_98_24, sR_98_25, sR_98_26, sR_98_27, sR_98_28, sR_98_29, sR_98_31, sR_98_34, sR_98_35, sR_98_36, sR_98_42, sR_98_44, sR_98_45, sR_98_47, sR_98_49, sR_98_51, sR_98_56, sR_98_58, sR_98_62, sR_98_65, sR_98_66, sR_98_69, hh0, ep]
  rw [if_pos hx] at ep
  obtain ⟨p, hp, rfl⟩ := j_in_ex hx (by omega)
  rw [nI_clamp (show p < 2 ^ 31 by omega)]
  have ec := e_M_coupleOf k0 (p := p) (by omega)
  by_cases hc : sCpl A p = none
  case neg =>
    rw [if_neg (fun q => hc q.2)]
    have hc' : ¬ oI (sCpl A p) = -1 := fun q => hc ((oI_m1 (sCpl_31 w)).mp q)
    refine ⟨h0, ?_, op_fin r m0 r0.2.2.2.1⟩
    simp (disch := first | assumption | omega) [f_M_gain, ga_body, j_meth, j_out, j_rok, j_pad, lg_sl, s_seq_w, isN_inl, isN_inr, s_if, jb, x_c, x_iloc, x_aloc, x_lloc, x_bin, x_un, o_add, o_sub, o_mul, o_and, o_or, o_xor, o_shl, o_shr, o_ushr, o_max, o_min, o_i2b, o_i2c, o_i2l, o_l2i, x_fld, j_fget, x_idx, j_aget, x_len, j_alen, x_ofb, x_ite, xs_nil, xs_cons, x_callv, x_calls, s_callv, s_calls, j_recv, j_ret, j_retv, b_cmp, b_and, b_or, b_not, b_ofi, b_ite, b_true, s_skip, s_set, j_ty, j_lset, j_kill, s_inc, s_fput, j_fput, s_fop, s_aput, j_aput, j_nar, s_aop, s_ret, s_retv, s_go, s_pop, x_linc, x_finc, Value.category, if_icmp.holds, List.flatMap_cons, List.flatMap_nil, List.length_cons, List.length_append, List.length_nil, List.set_cons_succ, List.set_cons_zero, List.getElem?_cons_succ, List.getElem?_cons_zero, List.replicate, ite_and', ite_or', ite_int', nI_leI, nI_ltI, nI_eq, nI_add, nI_1, pk_mul, nI_clamp, n_in', nI_pos', nI_pos, n_m1e, n_01, n_10, sT_98, sT_99, sT_100, sT_101, sT_102, sT_103, sT_104, sT_105, sT_106, sT_107, sT_108, sT_109, sT_110, sT_111, sT_112, sT_113, sT_114, sT_115, sT_116, sT_117, sT_118, sT_119, sT_120, sT_121, sT_122, sT_123, sT_124, sT_125, sT_126, sT_127, sT_128, sT_129, sT_130, sT_131, sT_132, sT_133, sT_134, sT_135, sT_136, sT_137, sT_138, sT_139, sT_140, sR_98_1, sR_98_4, sR_98_5, sR_98_6, sR_98_7, sR_98_8, sR_98_9, sR_98_10, sR_98_12, sR_98_13, sR_98_14, sR_98_15, sR_98_16, sR_98_17, sR_98_18, sR_98_19, sR_98_20, sR_98_21, sR_98_22, sR_98_23, sR_98_24, sR_98_25, sR_98_26, sR_98_27, sR_98_28, sR_98_29, sR_98_31, sR_98_34, sR_98_35, sR_98_36, sR_98_42, sR_98_44, sR_98_45, sR_98_47, sR_98_49, sR_98_51, sR_98_56, sR_98_58, sR_98_62, sR_98_65, sR_98_66, sR_98_69, hh0, ep, ec, hc']
  rw [if_pos ⟨hx, hc⟩]
  rw [hc, oI_n] at ec
  obtain ⟨h1, e1, m1, -, -, hlt1⟩ := e_M_outcome k0 r0.2.1 (LOk0 A) r0.2.2.2.2
  have m1' := MW_trans m0 (MW_mono m1 Wof_op)
  have rr1 := RRw_mw r0.2.2.2.1 m1 Wof_rw
  have ro1 := ROf_fr r0.2.2.2.2 m1.1 (by unfold Wof Wmk; intro a k; omega)
  have hs1 := m1.2.1.1
  have hl0 : ∀ v, sOuV A none none none = some v → v < 2 ^ 20 := fun v hv => sOuV_lt hlt1 hv
  clear hlt1
  cases ho : sOuV A none none none with
  | none =>
    rw [ho] at e1
    refine ⟨h1, ?_, op_fin r m1' rr1⟩
    have hh0' : hSetI h 98 33 0 = h0 := by rw [← hh0, nI_0]
    simp (disch := first | assumption | omega) [f_M_gain, ga_body, j_meth, j_out, j_rok, j_pad, lg_sl, s_seq_w, isN_inl, isN_inr, s_if, jb, x_c, x_iloc, x_aloc, x_lloc, x_bin, x_un, o_add, o_sub, o_mul, o_and, o_or, o_xor, o_shl, o_shr, o_ushr, o_max, o_min, o_i2b, o_i2c, o_i2l, o_l2i, x_fld, j_fget, x_idx, j_aget, x_len, j_alen, x_ofb, x_ite, xs_nil, xs_cons, x_callv, x_calls, s_callv, s_calls, j_recv, j_ret, j_retv, b_cmp, b_and, b_or, b_not, b_ofi, b_ite, b_true, s_skip, s_set, j_ty, j_lset, j_kill, s_inc, s_fput, j_fput, s_fop, s_aput, j_aput, j_nar, s_aop, s_ret, s_retv, s_go, s_pop, x_linc, x_finc, Value.category, if_icmp.holds, List.flatMap_cons, List.flatMap_nil, List.length_cons, List.length_append, List.length_nil, List.set_cons_succ, List.set_cons_zero, List.getElem?_cons_succ, List.getElem?_cons_zero, List.replicate, ite_and', ite_or', ite_int', nI_leI, nI_ltI, nI_eq, nI_add, nI_1, pk_mul, nI_clamp, n_in', nI_pos', nI_pos, n_m1e, n_01, n_10, sT_98, sT_99, sT_100, sT_101, sT_102, sT_103, sT_104, sT_105, sT_106, sT_107, sT_108, sT_109, sT_110, sT_111, sT_112, sT_113, sT_114, sT_115, sT_116, sT_117, sT_118, sT_119, sT_120, sT_121, sT_122, sT_123, sT_124, sT_125, sT_126, sT_127, sT_128, sT_129, sT_130, sT_131, sT_132, sT_133, sT_134, sT_135, sT_136, sT_137, sT_138, sT_139, sT_140, sR_98_1, sR_98_4, sR_98_5, sR_98_6, sR_98_7, sR_98_8, sR_98_9, sR_98_10, sR_98_12, sR_98_13, sR_98_14, sR_98_15, sR_98_16, sR_98_17, sR_98_18, sR_98_19, sR_98_20, sR_98_21, sR_98_22, sR_98_23, sR_98_24, sR_98_25, sR_98_26, sR_98_27, sR_98_28, sR_98_29, sR_98_31, sR_98_34, sR_98_35, sR_98_36, sR_98_42, sR_98_44, sR_98_45, sR_98_47, sR_98_49, sR_98_51, sR_98_56, sR_98_58, sR_98_62, sR_98_65, sR_98_66, sR_98_69, hh0', ep, ec, e1, vOI, m3_neg, nI_0]
  | some v =>
    rw [ho] at e1
    have hv := hl0 v ho
    have er := e_M_rank m1.2.1 (S := v) (p := p) (by omega) hp
    have f2 : Fr (fun a k => a = 98 ∧ k = 70) h1 (hSetI h1 98 70 (oI (sRnk A v p))) := Fr_set _ ⟨rfl, rfl⟩
    have m2 : MW Wga A h (hSetI h1 98 70 (oI (sRnk A v p))) := MW_step (MW_mono m1' Wop_ga) f2 (by intro a k hv; unfold Wga Wop cM; omega)
    have rr2 : RRw rw (hSetI h1 98 70 (oI (sRnk A v p))) := RRw_eq rr1 (Fr_I f2 (by omega)) (fun k => Fr_I f2 (by omega))
    have h70 : hI (hSetI h1 98 70 (oI (sRnk A v p))) 98 70 = oI (sRnk A v p) := by rw [hI_setI, if_pos ⟨rfl, rfl⟩]
    have h60 : hI (hSetI h1 98 70 (oI (sRnk A v p))) 98 60 = -1 := by rw [Fr_I f2 (by omega)]; exact ro1.2.2.1
    have h61 : hI (hSetI h1 98 70 (oI (sRnk A v p))) 98 61 = -1 := by rw [Fr_I f2 (by omega)]; exact ro1.2.2.2
    generalize hh2 : hSetI h1 98 70 (oI (sRnk A v p)) = h2 at *
    obtain ⟨h', g1, g2, g3⟩ := e_gain_1 r m2 rr2 hp h70 h60 h61 (nI v)
    have hst : f_M_gain [.ref 98, .int (nI p)] h = j_out 1 (gaT1 ([.ref 98, .int (nI p), .int (nI v), .null, .null], h2)) := by
      simp (disch := first | assumption | omega) [f_M_gain, ga_body, j_meth, j_out, j_rok, j_pad, lg_sl, s_seq_w, isN_inl, isN_inr, s_if, jb, x_c, x_iloc, x_aloc, x_lloc, x_bin, x_un, o_add, o_sub, o_mul, o_and, o_or, o_xor, o_shl, o_shr, o_ushr, o_max, o_min, o_i2b, o_i2c, o_i2l, o_l2i, x_fld, j_fget, x_idx, j_aget, x_len, j_alen, x_ofb, x_ite, xs_nil, xs_cons, x_callv, x_calls, s_callv, s_calls, j_recv, j_ret, j_retv, b_cmp, b_and, b_or, b_not, b_ofi, b_ite, b_true, s_skip, s_set, j_ty, j_lset, j_kill, s_inc, s_fput, j_fput, s_fop, s_aput, j_aput, j_nar, s_aop, s_ret, s_retv, s_go, s_pop, x_linc, x_finc, Value.category, if_icmp.holds, List.flatMap_cons, List.flatMap_nil, List.length_cons, List.length_append, List.length_nil, List.set_cons_succ, List.set_cons_zero, List.getElem?_cons_succ, List.getElem?_cons_zero, List.replicate, ite_and', ite_or', ite_int', nI_leI, nI_ltI, nI_eq, nI_add, nI_1, pk_mul, nI_clamp, n_in', nI_pos', nI_pos, n_m1e, n_01, n_10, sT_98, sT_99, sT_100, sT_101, sT_102, sT_103, sT_104, sT_105, sT_106, sT_107, sT_108, sT_109, sT_110, sT_111, sT_112, sT_113, sT_114, sT_115, sT_116, sT_117, sT_118, sT_119, sT_120, sT_121, sT_122, sT_123, sT_124, sT_125, sT_126, sT_127, sT_128, sT_129, sT_130, sT_131, sT_132, sT_133, sT_134, sT_135, sT_136, sT_137, sT_138, sT_139, sT_140, sR_98_1, sR_98_4, sR_98_5, sR_98_6, sR_98_7, sR_98_8, sR_98_9, sR_98_10, sR_98_12, sR_98_13, sR_98_14, sR_98_15, sR_98_16, sR_98_17, sR_98_18, sR_98_19, sR_98_20, sR_98_21, sR_98_22, sR_98_23, sR_98_24, sR_98_25, sR_98_26, sR_98_27, sR_98_28, sR_98_29, sR_98_31, sR_98_34, sR_98_35, sR_98_36, sR_98_42, sR_98_44, sR_98_45, sR_98_47, sR_98_49, sR_98_51, sR_98_56, sR_98_58, sR_98_62, sR_98_65, sR_98_66, sR_98_69, hh0, ep, ec, e1, vOI, er, hh2]
    simp only
    cases hg : sGnN A p (oI (sRnk A v p)) with
    | none =>
      rw [hg] at g1 g2
      exact ⟨h', by rw [hst]; exact g1, g2, g3⟩
    | some n =>
      rw [hg] at g1 g2
      exact ⟨h', by rw [hst]; exact g1, g2, g3⟩
