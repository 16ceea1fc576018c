/-! calls that change the state: person, office -/
theorem ag_pers (A : AS) (k f : Nat) : TkAg A (aPers A k) f := ⟨Nat.le_refl _, Nat.le_succ _, fun b _ => ⟨rfl, rfl, rfl, rfl, rfl⟩, fun b h1 h2 => absurd h2 (Nat.not_lt.mpr h1), fun p hp => updN_ne _ _ (by omega), rfl⟩
theorem kdM_pers (A : AS) (k m : Nat) : kdM (aPers A k) m = if m = k then kdM A m ||| 2 ^ aNp A else kdM A m := by
  have h1 : kdM (aPers A k) m = if updN (aKd A) (aNp A) k (aNp A) == m then nfo (fun p s => if updN (aKd A) (aNp A) k p == m then s ||| 2 ^ p else s) (aNp A) 0 ||| 2 ^ aNp A else nfo (fun p s => if updN (aKd A) (aNp A) k p == m then s ||| 2 ^ p else s) (aNp A) 0 := rfl
  have h2 : nfo (fun p s => if updN (aKd A) (aNp A) k p == m then s ||| 2 ^ p else s) (aNp A) 0 = kdM A m := nfo_cg _ (fun p s hp => by rw [updN_ne _ _ (by omega)]) 0
  rw [h1, h2, updN_eq]
  by_cases e : m = k
  · subst e; simp
  · have : ¬ k = m := fun z => e z.symm
    simp [e, this]
theorem o_S_person {A : AS} {tx : List Nat} {rw : List Int32} {h : jHp} (r : RC A tx rw h) (x : Int32) : ∃ h', f_S_person [.ref 1, .int x] h = some (some (.int (vPerson A x).1), h') ∧ RC (vPerson A x).2 tx rw h' ∧ FC h h' := by
  have r0 := r
  obtain ⟨mk, ⟨ca, bl, d, sp⟩, c11, ct, cr, cs⟩ := r
  have hs := mk.1.1
  have w := mk.1.2.1
  have cb := mk.1.2.2.1
  have cp := mk.1.2.2.2
  have hn := w.1.1
  have c15 := cp.1
  have s77 := sT_77 hs
  unfold vPerson
  by_cases hx : j_in x 4 = true
  case neg =>
    rw [if_neg (fun q => hx q.1)]
    refine ⟨h, ?_, r0, FC_refl h⟩
    by_cases z1 : x < 0
    · simp (disch := first | assumption | omega) [f_S_person, body_S_person, j_meth, j_out, j_rok, j_pad, lg_sl, s_seq_w, isN_inl, isN_inr, s_if, jb, x_c, x_iloc, x_aloc, x_lloc, x_bin, x_un, o_add, o_sub, o_mul, o_and, o_or, o_xor, o_shl, o_shr, o_ushr, o_max, o_min, o_i2b, o_i2c, o_i2l, o_l2i, x_fld, j_fget, x_idx, j_aget, x_len, j_alen, x_ofb, x_ite, xs_nil, xs_cons, x_callv, x_calls, s_callv, s_calls, j_recv, j_ret, j_retv, b_cmp, b_and, b_or, b_not, b_ofi, b_ite, b_true, s_skip, s_set, j_ty, j_lset, j_kill, s_inc, s_fput, j_fput, s_fop, s_aput, j_aput, j_nar, s_aop, s_ret, s_retv, s_go, s_pop, x_linc, x_finc, Value.category, if_icmp.holds, List.flatMap_cons, List.flatMap_nil, List.length_cons, List.length_append, List.length_nil, List.set_cons_succ, List.set_cons_zero, List.getElem?_cons_succ, List.getElem?_cons_zero, List.replicate, ite_and', ite_or', ite_int', nI_leI, nI_ltI, nI_eq, nI_add, nI_1, pk_mul, nI_clamp, n_in', nI_pos', nI_pos, n_m1e, n_01, n_10, sT_1, sR_1_0, sR_1_1, sR_1_2, sR_1_3, sR_1_4, sR_1_5, sR_1_6, sR_1_7, sR_1_8, sR_1_9, sT_2, sT_3, sT_4, sT_5, sT_6, sT_7, sT_8, sT_9, sT_10, sT_11, sT_12, sT_13, sT_14, sR_2_1, sR_2_2, sR_2_3, sR_2_4, sR_2_5, sR_2_6, sR_2_7, sR_2_8, sR_2_9, sR_2_10, sR_2_11, sR_2_12, sT_15, sT_16, sT_17, sT_18, sT_19, sT_20, sT_21, sT_22, sT_23, sR_15_1, sR_15_2, sR_15_3, sR_15_4, sR_15_5, sR_15_6, sR_15_7, sR_15_8, sT_24, sT_25, sT_26, sT_27, sT_28, sT_29, sR_24_1, sR_24_2, sR_24_3, sR_24_4, sR_24_5, sT_71, sT_72, sR_71_0, sR_71_1, sR_71_2, sR_71_3, sR_71_4, sT_73, sT_74, sT_75, sR_73_0, sR_73_1, sR_73_2, sR_73_3, sR_73_4, sR_73_5, sT_84, sT_85, sT_86, sT_87, sR_84_0, sR_84_1, sR_84_2, sR_84_3, sR_84_4, sR_84_5, sT_88, sT_89, sR_88_0, sT_90, sT_91, sR_90_0, z1]
    · have z2 : nI 4 ≤ x := by
        rcases n_of x with ⟨k, hk, rfl⟩ | hneg
        · rw [n_in hk] at hx
          rw [nI_leI (by omega) hk]
          have : ¬ k < 4 := by simpa using hx
          omega
        · exact absurd hneg z1
      simp (disch := first | assumption | omega) [f_S_person, body_S_person, j_meth, j_out, j_rok, j_pad, lg_sl, s_seq_w, isN_inl, isN_inr, s_if, jb, x_c, x_iloc, x_aloc, x_lloc, x_bin, x_un, o_add, o_sub, o_mul, o_and, o_or, o_xor, o_shl, o_shr, o_ushr, o_max, o_min, o_i2b, o_i2c, o_i2l, o_l2i, x_fld, j_fget, x_idx, j_aget, x_len, j_alen, x_ofb, x_ite, xs_nil, xs_cons, x_callv, x_calls, s_callv, s_calls, j_recv, j_ret, j_retv, b_cmp, b_and, b_or, b_not, b_ofi, b_ite, b_true, s_skip, s_set, j_ty, j_lset, j_kill, s_inc, s_fput, j_fput, s_fop, s_aput, j_aput, j_nar, s_aop, s_ret, s_retv, s_go, s_pop, x_linc, x_finc, Value.category, if_icmp.holds, List.flatMap_cons, List.flatMap_nil, List.length_cons, List.length_append, List.length_nil, List.set_cons_succ, List.set_cons_zero, List.getElem?_cons_succ, List.getElem?_cons_zero, List.replicate, ite_and', ite_or', ite_int', nI_leI, nI_ltI, nI_eq, nI_add, nI_1, pk_mul, nI_clamp, n_in', nI_pos', nI_pos, n_m1e, n_01, n_10, sT_1, sR_1_0, sR_1_1, sR_1_2, sR_1_3, sR_1_4, sR_1_5, sR_1_6, sR_1_7, sR_1_8, sR_1_9, sT_2, sT_3, sT_4, sT_5, sT_6, sT_7, sT_8, sT_9, sT_10, sT_11, sT_12, sT_13, sT_14, sR_2_1, sR_2_2, sR_2_3, sR_2_4, sR_2_5, sR_2_6, sR_2_7, sR_2_8, sR_2_9, sR_2_10, sR_2_11, sR_2_12, sT_15, sT_16, sT_17, sT_18, sT_19, sT_20, sT_21, sT_22, sT_23, sR_15_1, sR_15_2, sR_15_3, sR_15_4, sR_15_5, sR_15_6, sR_15_7, sR_15_8, sT_24, sT_25, sT_26, sT_27, sT_28, sT_29, sR_24_1, sR_24_2, sR_24_3, sR_24_4, sR_24_5, sT_71, sT_72, sR_71_0, sR_71_1, sR_71_2, sR_71_3, sR_71_4, sT_73, sT_74, sT_75, sR_73_0, sR_73_1, sR_73_2, sR_73_3, sR_73_4, sR_73_5, sT_84, sT_85, sT_86, sT_87, sR_84_0, sR_84_1, sR_84_2, sR_84_3, sR_84_4, sR_84_5, sT_88, sT_89, sR_88_0, sT_90, sT_91, sR_90_0, z1, z2]
  obtain ⟨k, hk, rfl⟩ := j_in_ex hx (by omega)
  rw [nI_clamp (by omega)]
  have z1 : ¬ nI k < 0 := Int32.not_lt.mpr (nI_pos' (by omega))
  have z2 : ¬ 4 ≤ k := by omega
  by_cases h7 : aNp A = 7
  · rw [if_neg (fun q => q.2 h7)]
    refine ⟨h, ?_, r0, FC_refl h⟩
    rw [h7] at c15
    simp (disch := first | assumption | omega) [f_S_person, body_S_person, j_meth, j_out, j_rok, j_pad, lg_sl, s_seq_w, isN_inl, isN_inr, s_if, jb, x_c, x_iloc, x_aloc, x_lloc, x_bin, x_un, o_add, o_sub, o_mul, o_and, o_or, o_xor, o_shl, o_shr, o_ushr, o_max, o_min, o_i2b, o_i2c, o_i2l, o_l2i, x_fld, j_fget, x_idx, j_aget, x_len, j_alen, x_ofb, x_ite, xs_nil, xs_cons, x_callv, x_calls, s_callv, s_calls, j_recv, j_ret, j_retv, b_cmp, b_and, b_or, b_not, b_ofi, b_ite, b_true, s_skip, s_set, j_ty, j_lset, j_kill, s_inc, s_fput, j_fput, s_fop, s_aput, j_aput, j_nar, s_aop, s_ret, s_retv, s_go, s_pop, x_linc, x_finc, Value.category, if_icmp.holds, List.flatMap_cons, List.flatMap_nil, List.length_cons, List.length_append, List.length_nil, List.set_cons_succ, List.set_cons_zero, List.getElem?_cons_succ, List.getElem?_cons_zero, List.replicate, ite_and', ite_or', ite_int', nI_leI, nI_ltI, nI_eq, nI_add, nI_1, pk_mul, nI_clamp, n_in', nI_pos', nI_pos, n_m1e, n_01, n_10, sT_1, sR_1_0, sR_1_1, sR_1_2, sR_1_3, sR_1_4, sR_1_5, sR_1_6, sR_1_7, sR_1_8, sR_1_9, sT_2, sT_3, sT_4, sT_5, sT_6, sT_7, sT_8, sT_9, sT_10, sT_11, sT_12, sT_13, sT_14, sR_2_1, sR_2_2, sR_2_3, sR_2_4, sR_2_5, sR_2_6, sR_2_7, sR_2_8, sR_2_9, sR_2_10, sR_2_11, sR_2_12, sT_15, sT_16, sT_17, sT_18, sT_19, sT_20, sT_21, sT_22, sT_23, sR_15_1, sR_15_2, sR_15_3, sR_15_4, sR_15_5, sR_15_6, sR_15_7, sR_15_8, sT_24, sT_25, sT_26, sT_27, sT_28, sT_29, sR_24_1, sR_24_2, sR_24_3, sR_24_4, sR_24_5, sT_71, sT_72, sR_71_0, sR_71_1, sR_71_2, sR_71_3, sR_71_4, sT_73, sT_74, sT_75, sR_73_0, sR_73_1, sR_73_2, sR_73_3, sR_73_4, sR_73_5, sT_84, sT_85, sT_86, sT_87, sR_84_0, sR_84_1, sR_84_2, sR_84_3, sR_84_4, sR_84_5, sT_88, sT_89, sR_88_0, sT_90, sT_91, sR_90_0, z1, z2, c15]
  rw [if_pos ⟨hx, h7⟩]
  have z3 : ¬ 7 ≤ aNp A := by omega
  have hk2 := kdM_lt w k
  have c17 := cp.2.2.1 k hk
  have hsh := n_shl 1 (k := aNp A) (by omega)
  rw [Nat.one_mul] at hsh
  have f1 : Fr (fun a j => okM a j) h (hSetI (hSetI (hSetI (hSetI h 77 4 (nI 0)) 16 (aNp A) (nI k)) 17 k (nI (kdM A k ||| 2 ^ aNp A))) 15 0 (nI (aNp A + 1))) := Fr_trans (Fr_trans (Fr_trans (Fr_set _ (Or.inr (Or.inl ⟨rfl, rfl⟩))) (Fr_set _ (Or.inl (by omega)))) (Fr_set _ (Or.inl (by omega)))) (Fr_set _ (Or.inl (by omega)))
  have g : ∀ a j, hI (hSetI (hSetI (hSetI (hSetI h 77 4 (nI 0)) 16 (aNp A) (nI k)) 17 k (nI (kdM A k ||| 2 ^ aNp A))) 15 0 (nI (aNp A + 1))) a j = if a = 15 ∧ j = 0 then nI (aNp A + 1) else if a = 17 ∧ j = k then nI (kdM A k ||| 2 ^ aNp A) else if a = 16 ∧ j = aNp A then nI k else if a = 77 ∧ j = 4 then nI 0 else hI h a j := fun a j => by
    rw [hI_setI, hI_setI, hI_setI, hI_setI]
  have hsu : nI (aNp A + 1) - nI 1 = nI (aNp A) := by rw [pk_sub (by omega)]; rfl
  refine ⟨_, ?_, RC_new (B := aPers A k) r0 sp f1 (fun a j q => Or.inl q) (WF_pers w hk h7) ?_ ?_ ?_ (DK_ag w (WF_pers w hk h7) (fun f _ => ag_pers A k f) (DK_fr' d f1 fun a j q => q)) ?_ ?_⟩
  · have hs1 : Shape (hSetI h 77 4 (nI 0)) := hs
    have hs2 : Shape (hSetI (hSetI h 77 4 (nI 0)) 16 (aNp A) (nI k)) := hs
    have hs3 : Shape (hSetI (hSetI (hSetI h 77 4 (nI 0)) 16 (aNp A) (nI k)) 17 k (nI (kdM A k ||| 2 ^ aNp A))) := hs
    have hs4 : Shape (hSetI (hSetI (hSetI (hSetI h 77 4 (nI 0)) 16 (aNp A) (nI k)) 17 k (nI (kdM A k ||| 2 ^ aNp A))) 15 0 (nI (aNp A + 1))) := hs
    have a1 : hI (hSetI h 77 4 (nI 0)) 15 0 = nI (aNp A) := by rw [hI_setI, if_neg (by omega)]; exact c15
    have a2 : hI (hSetI (hSetI h 77 4 (nI 0)) 16 (aNp A) (nI k)) 15 0 = nI (aNp A) := by rw [hI_setI, if_neg (by omega)]; exact a1
    have a3 : hI (hSetI (hSetI h 77 4 (nI 0)) 16 (aNp A) (nI k)) 17 k = nI (kdM A k) := by rw [hI_setI, if_neg (by omega), hI_setI, if_neg (by omega)]; exact c17
    have a4 : hI (hSetI (hSetI (hSetI h 77 4 (nI 0)) 16 (aNp A) (nI k)) 17 k (nI (kdM A k ||| 2 ^ aNp A))) 15 0 = nI (aNp A) := by rw [hI_setI, if_neg (by omega)]; exact a2
    have a5 : hI (hSetI (hSetI (hSetI (hSetI h 77 4 (nI 0)) 16 (aNp A) (nI k)) 17 k (nI (kdM A k ||| 2 ^ aNp A))) 15 0 (nI (aNp A + 1))) 15 0 = nI (aNp A + 1) := by rw [hI_setI, if_pos ⟨rfl, rfl⟩]
    clear d g f1
    have hz : (nI 0 = (0 : Int32)) = True := by rw [nI_0]; simp
    generalize h4e : hSetI (hSetI (hSetI (hSetI h 77 4 (nI 0)) 16 (aNp A) (nI k)) 17 k (nI (kdM A k ||| 2 ^ aNp A))) 15 0 (nI (aNp A + 1)) = h4 at *
    generalize h3e : hSetI (hSetI (hSetI h 77 4 (nI 0)) 16 (aNp A) (nI k)) 17 k (nI (kdM A k ||| 2 ^ aNp A)) = h3 at *
    generalize h2e : hSetI (hSetI h 77 4 (nI 0)) 16 (aNp A) (nI k) = h2 at *
    generalize h1e : hSetI h 77 4 (nI 0) = h1 at *
    simp (disch := first | assumption | omega) [f_S_person, body_S_person, j_meth, j_out, j_rok, j_pad, lg_sl, s_seq_w, isN_inl, isN_inr, s_if, jb, x_c, x_iloc, x_aloc, x_lloc, x_bin, x_un, o_add, o_sub, o_mul, o_and, o_or, o_xor, o_shl, o_shr, o_ushr, o_max, o_min, o_i2b, o_i2c, o_i2l, o_l2i, x_fld, j_fget, x_idx, j_aget, x_len, j_alen, x_ofb, x_ite, xs_nil, xs_cons, x_callv, x_calls, s_callv, s_calls, j_recv, j_ret, j_retv, b_cmp, b_and, b_or, b_not, b_ofi, b_ite, b_true, s_skip, s_set, j_ty, j_lset, j_kill, s_inc, s_fput, j_fput, s_fop, s_aput, j_aput, j_nar, s_aop, s_ret, s_retv, s_go, s_pop, x_linc, x_finc, Value.category, if_icmp.holds, List.flatMap_cons, List.flatMap_nil, List.length_cons, List.length_append, List.length_nil, List.set_cons_succ, List.set_cons_zero, List.getElem?_cons_succ, List.getElem?_cons_zero, List.replicate, ite_and', ite_or', ite_int', nI_leI, nI_ltI, nI_eq, nI_add, nI_1, pk_mul, nI_clamp, n_in', nI_pos', nI_pos, n_m1e, n_01, n_10, sT_1, sR_1_0, sR_1_1, sR_1_2, sR_1_3, sR_1_4, sR_1_5, sR_1_6, sR_1_7, sR_1_8, sR_1_9, sT_2, sT_3, sT_4, sT_5, sT_6, sT_7, sT_8, sT_9, sT_10, sT_11, sT_12, sT_13, sT_14, sR_2_1, sR_2_2, sR_2_3, sR_2_4, sR_2_5, sR_2_6, sR_2_7, sR_2_8, sR_2_9, sR_2_10, sR_2_11, sR_2_12, sT_15, sT_16, sT_17, sT_18, sT_19, sT_20, sT_21, sT_22, sT_23, sR_15_1, sR_15_2, sR_15_3, sR_15_4, sR_15_5, sR_15_6, sR_15_7, sR_15_8, sT_24, sT_25, sT_26, sT_27, sT_28, sT_29, sR_24_1, sR_24_2, sR_24_3, sR_24_4, sR_24_5, sT_71, sT_72, sR_71_0, sR_71_1, sR_71_2, sR_71_3, sR_71_4, sT_73, sT_74, sT_75, sR_73_0, sR_73_1, sR_73_2, sR_73_3, sR_73_4, sR_73_5, sT_84, sT_85, sT_86, sT_87, sR_84_0, sR_84_1, sR_84_2, sR_84_3, sR_84_4, sR_84_5, sT_88, sT_89, sR_88_0, sT_90, sT_91, sR_90_0, f_P_join, body_P_join, z1, z2, z3, c15, s77, hz, h1e, a1, h2e, a2, a3, hsh, n_or, h3e, a4, h4e, a5, hsu]
  · exact CB_eq2 (A := A) cb fun a j h1 ha => by
      rw [g, if_neg (by omega), if_neg (by omega), if_neg (by omega), if_neg (by omega)]
  · obtain ⟨p1, p2, p3, p4, p5, p6⟩ := cp
    have ge : ∀ a j, 18 ≤ a → a ≤ 23 → hI (hSetI (hSetI (hSetI (hSetI h 77 4 (nI 0)) 16 (aNp A) (nI k)) 17 k (nI (kdM A k ||| 2 ^ aNp A))) 15 0 (nI (aNp A + 1))) a j = hI h a j := fun a j h1 h2 => by
      rw [g, if_neg (by omega), if_neg (by omega), if_neg (by omega), if_neg (by omega)]
    refine ⟨?_, fun p hp => ?_, fun m hm => ?_, fun p hp => ?_, fun b hb => ?_, fun b i hb hi => ?_⟩
    · rw [g, if_pos ⟨rfl, rfl⟩]; rfl
    · have hp' : p < aNp A + 1 := hp
      show _ = nI (updN (aKd A) (aNp A) k p)
      rw [g, if_neg (by omega), if_neg (by omega)]
      by_cases e : p = aNp A
      · rw [if_pos ⟨rfl, e⟩, e, updN_eq]
      · rw [if_neg (fun q => e q.2), if_neg (by omega), updN_ne _ _ e]
        exact p2 p (by omega)
    · rw [kdM_pers, g, if_neg (by omega)]
      by_cases e : m = k
      · rw [if_pos ⟨rfl, e⟩, if_pos e, e]
      · rw [if_neg (fun q => e q.2), if_neg e, if_neg (by omega), if_neg (by omega)]
        exact p3 m hm
    · rw [ge 18 p (by omega) (by omega), ge 20 p (by omega) (by omega), ge 21 p (by omega) (by omega)]
      exact ⟨(p4 p hp).1, (p4 p hp).2.1, (p4 p hp).2.2.1, fun i hi => by rw [ge 19 _ (by omega) (by omega)]; exact (p4 p hp).2.2.2 i hi⟩
    · rw [ge 22 b (by omega) (by omega)]; exact p5 b hb
    · rw [ge 23 b (by omega) (by omega)]; exact p6 b i hb hi
  · exact CC_eq2 (A := A) mk.2 fun a j h1 h2 => by
      rw [g, if_neg (by omega), if_neg (by omega), if_neg (by omega), if_neg (by omega)]
  · rw [g, if_neg (by omega), if_neg (by omega), if_neg (by omega), if_neg (by omega)]
    exact c11
  · rw [g, if_neg (by omega), if_neg (by omega), if_neg (by omega), if_pos ⟨rfl, rfl⟩]
    exact nI_0
theorem WF_offi {A : AS} (w : WF A) (h4 : aNo A ≠ 4) : WF (aOffi A) := by
  obtain ⟨w1, w2, ⟨w3, w3', w3''⟩, w4, w5, w6, w7⟩ := w
  refine ⟨w1, by show aNo A + 1 ≤ 4; omega, ⟨w3, fun b hb => ?_, w3''⟩, w4, w5, fun f => ?_, w7⟩
  · obtain ⟨a, b', c⟩ := w3' b hb
    exact ⟨a, by show aOf A b < aNo A + 1; omega, c⟩
  · obtain ⟨a, b⟩ := w6 f
    refine ⟨fun q => a ?_, b⟩
    have q' : aNo A + 1 ≤ f := q
    omega
theorem ag_offi (A : AS) (f : Nat) : TkAg A (aOffi A) f := ⟨Nat.le_refl _, Nat.le_refl _, fun b _ => ⟨rfl, rfl, rfl, rfl, rfl⟩, fun b h1 h2 => absurd h2 (Nat.not_lt.mpr h1), fun p _ => rfl, rfl⟩
theorem o_S_office {A : AS} {tx : List Nat} {rw : List Int32} {h : jHp} (r : RC A tx rw h) : ∃ h', f_S_office [.ref 1] h = some (some (.int (vOffice A).1), h') ∧ RC (vOffice A).2 tx rw h' ∧ FC h h' := by
  have r0 := r
  obtain ⟨mk, ⟨ca, bl, d, sp⟩, c11, ct, cr, cs⟩ := r
  have hs := mk.1.1
  have w := mk.1.2.1
  have hno := w.2.1
  have s77 := sT_77 hs
  unfold vOffice
  by_cases h4 : aNo A = 4
  · rw [if_pos h4]
    rw [h4] at c11
    refine ⟨h, ?_, r0, FC_refl h⟩
    simp (disch := first | assumption | omega) [f_S_office, body_S_office, j_meth, j_out, j_rok, j_pad, lg_sl, s_seq_w, isN_inl, isN_inr, s_if, jb, x_c, x_iloc, x_aloc, x_lloc, x_bin, x_un, o_add, o_sub, o_mul, o_and, o_or, o_xor, o_shl, o_shr, o_ushr, o_max, o_min, o_i2b, o_i2c, o_i2l, o_l2i, x_fld, j_fget, x_idx, j_aget, x_len, j_alen, x_ofb, x_ite, xs_nil, xs_cons, x_callv, x_calls, s_callv, s_calls, j_recv, j_ret, j_retv, b_cmp, b_and, b_or, b_not, b_ofi, b_ite, b_true, s_skip, s_set, j_ty, j_lset, j_kill, s_inc, s_fput, j_fput, s_fop, s_aput, j_aput, j_nar, s_aop, s_ret, s_retv, s_go, s_pop, x_linc, x_finc, Value.category, if_icmp.holds, List.flatMap_cons, List.flatMap_nil, List.length_cons, List.length_append, List.length_nil, List.set_cons_succ, List.set_cons_zero, List.getElem?_cons_succ, List.getElem?_cons_zero, List.replicate, ite_and', ite_or', ite_int', nI_leI, nI_ltI, nI_eq, nI_add, nI_1, pk_mul, nI_clamp, n_in', nI_pos', nI_pos, n_m1e, n_01, n_10, sT_1, sR_1_0, sR_1_1, sR_1_2, sR_1_3, sR_1_4, sR_1_5, sR_1_6, sR_1_7, sR_1_8, sR_1_9, sT_2, sT_3, sT_4, sT_5, sT_6, sT_7, sT_8, sT_9, sT_10, sT_11, sT_12, sT_13, sT_14, sR_2_1, sR_2_2, sR_2_3, sR_2_4, sR_2_5, sR_2_6, sR_2_7, sR_2_8, sR_2_9, sR_2_10, sR_2_11, sR_2_12, sT_15, sT_16, sT_17, sT_18, sT_19, sT_20, sT_21, sT_22, sT_23, sR_15_1, sR_15_2, sR_15_3, sR_15_4, sR_15_5, sR_15_6, sR_15_7, sR_15_8, sT_24, sT_25, sT_26, sT_27, sT_28, sT_29, sR_24_1, sR_24_2, sR_24_3, sR_24_4, sR_24_5, sT_71, sT_72, sR_71_0, sR_71_1, sR_71_2, sR_71_3, sR_71_4, sT_73, sT_74, sT_75, sR_73_0, sR_73_1, sR_73_2, sR_73_3, sR_73_4, sR_73_5, sT_84, sT_85, sT_86, sT_87, sR_84_0, sR_84_1, sR_84_2, sR_84_3, sR_84_4, sR_84_5, sT_88, sT_89, sR_88_0, sT_90, sT_91, sR_90_0, c11]
  rw [if_neg h4]
  have z : ¬ 4 ≤ aNo A := by omega
  have f1 : Fr (fun a j => okM a j) h (hSetI (hSetI h 77 4 (nI 0)) 1 11 (nI (aNo A + 1))) := Fr_trans (Fr_set _ (Or.inr (Or.inl ⟨rfl, rfl⟩))) (Fr_set _ (Or.inr (Or.inr ⟨rfl, rfl⟩)))
  have g : ∀ a j, hI (hSetI (hSetI h 77 4 (nI 0)) 1 11 (nI (aNo A + 1))) a j = if a = 1 ∧ j = 11 then nI (aNo A + 1) else if a = 77 ∧ j = 4 then nI 0 else hI h a j := fun a j => by
    rw [hI_setI, hI_setI]
  have hsu : nI (aNo A + 1) - nI 1 = nI (aNo A) := by rw [pk_sub (by omega)]; rfl
  refine ⟨_, ?_, RC_new (B := aOffi A) r0 sp f1 (fun a j q => Or.inl q) (WF_offi w h4) ?_ ?_ ?_ (DK_ag w (WF_offi w h4) (fun f _ => ag_offi A f) (DK_fr' d f1 fun a j q => q)) ?_ ?_⟩
  · have hs1 : Shape (hSetI h 77 4 (nI 0)) := hs
    have hs2 : Shape (hSetI (hSetI h 77 4 (nI 0)) 1 11 (nI (aNo A + 1))) := hs
    have a1 : hI (hSetI h 77 4 (nI 0)) 1 11 = nI (aNo A) := by rw [hI_setI, if_neg (by omega)]; exact c11
    have a2 : hI (hSetI (hSetI h 77 4 (nI 0)) 1 11 (nI (aNo A + 1))) 1 11 = nI (aNo A + 1) := by rw [hI_setI, if_pos ⟨rfl, rfl⟩]
    clear d g f1
    have hz : (nI 0 = (0 : Int32)) = True := by rw [nI_0]; simp
    generalize h2e : hSetI (hSetI h 77 4 (nI 0)) 1 11 (nI (aNo A + 1)) = h2 at *
    generalize h1e : hSetI h 77 4 (nI 0) = h1 at *
    simp (disch := first | assumption | omega) [f_S_office, body_S_office, j_meth, j_out, j_rok, j_pad, lg_sl, s_seq_w, isN_inl, isN_inr, s_if, jb, x_c, x_iloc, x_aloc, x_lloc, x_bin, x_un, o_add, o_sub, o_mul, o_and, o_or, o_xor, o_shl, o_shr, o_ushr, o_max, o_min, o_i2b, o_i2c, o_i2l, o_l2i, x_fld, j_fget, x_idx, j_aget, x_len, j_alen, x_ofb, x_ite, xs_nil, xs_cons, x_callv, x_calls, s_callv, s_calls, j_recv, j_ret, j_retv, b_cmp, b_and, b_or, b_not, b_ofi, b_ite, b_true, s_skip, s_set, j_ty, j_lset, j_kill, s_inc, s_fput, j_fput, s_fop, s_aput, j_aput, j_nar, s_aop, s_ret, s_retv, s_go, s_pop, x_linc, x_finc, Value.category, if_icmp.holds, List.flatMap_cons, List.flatMap_nil, List.length_cons, List.length_append, List.length_nil, List.set_cons_succ, List.set_cons_zero, List.getElem?_cons_succ, List.getElem?_cons_zero, List.replicate, ite_and', ite_or', ite_int', nI_leI, nI_ltI, nI_eq, nI_add, nI_1, pk_mul, nI_clamp, n_in', nI_pos', nI_pos, n_m1e, n_01, n_10, sT_1, sR_1_0, sR_1_1, sR_1_2, sR_1_3, sR_1_4, sR_1_5, sR_1_6, sR_1_7, sR_1_8, sR_1_9, sT_2, sT_3, sT_4, sT_5, sT_6, sT_7, sT_8, sT_9, sT_10, sT_11, sT_12, sT_13, sT_14, sR_2_1, sR_2_2, sR_2_3, sR_2_4, sR_2_5, sR_2_6, sR_2_7, sR_2_8, sR_2_9, sR_2_10, sR_2_11, sR_2_12, sT_15, sT_16, sT_17, sT_18, sT_19, sT_20, sT_21, sT_22, sT_23, sR_15_1, sR_15_2, sR_15_3, sR_15_4, sR_15_5, sR_15_6, sR_15_7, sR_15_8, sT_24, sT_25, sT_26, sT_27, sT_28, sT_29, sR_24_1, sR_24_2, sR_24_3, sR_24_4, sR_24_5, sT_71, sT_72, sR_71_0, sR_71_1, sR_71_2, sR_71_3, sR_71_4, sT_73, sT_74, sT_75, sR_73_0, sR_73_1, sR_73_2, sR_73_3, sR_73_4, sR_73_5, sT_84, sT_85, sT_86, sT_87, sR_84_0, sR_84_1, sR_84_2, sR_84_3, sR_84_4, sR_84_5, sT_88, sT_89, sR_88_0, sT_90, sT_91, sR_90_0, c11, z, s77, hz, h1e, a1, h2e, a2, hsu]
  · exact CB_eq2 (A := A) mk.1.2.2.1 fun a j h1 ha => by rw [g, if_neg (by omega), if_neg (by omega)]
  · exact CP_eq2 (A := A) mk.1.2.2.2 fun a j h1 h2 => by rw [g, if_neg (by omega), if_neg (by omega)]
  · exact CC_eq2 (A := A) mk.2 fun a j h1 h2 => by rw [g, if_neg (by omega), if_neg (by omega)]
  · rw [g, if_pos ⟨rfl, rfl⟩]; rfl
  · rw [g, if_neg (by omega), if_pos ⟨rfl, rfl⟩]; exact nI_0
