theorem GL_pre {A : AS} {p : Nat} {pre m : List Nat} {h : jHp} (g : GL A p (pre ++ m) h) : GL A p pre h := ⟨g.1, fun k hk => by
  have := g.2 k (by simp; omega)
  rw [this, List.getD_eq_getElem?_getD, List.getD_eq_getElem?_getD, List.getElem?_append_left hk]⟩
theorem gl_rec {A : AS} {p r : Nat} (w : WF A) (hp : p < aNp A) (hc : sCpl A p = none) (hr : r ≤ (aLl A p).length) : ∀ n fuel pre U h, n < fuel → pre.length + n ≤ 5 → usd A p pre U → pre.Nodup → (∀ b ∈ pre, b < aNb A ∧ aPe A b = p) → OT A h → GL A p pre h → ∃ h', f_O_gainsByLie fuel [.ref 84, .int (nI p), .int (nI r), .int (nI (pre.length + n)), .int (nI pre.length), .int (nI U)] h = some (some (.int (if (lieF A p (nI r) n pre).isSome then 1 else 0)), h') ∧ Fr (Wgl p) h h' ∧ GL A p ((lieF A p (nI r) n pre).getD pre) h' := by
  have hn := w.1.1
  have h20 := w.2.2.1.1
  have h5 : nP A p ≤ 5 := w.2.2.1.2.2.2 p
  intro n
  induction n with
  | zero =>
    intro fuel pre U h hf hl u hd hm x g
    obtain ⟨k, rfl⟩ : ∃ k, fuel = k + 1 := ⟨fuel - 1, by omega⟩
    obtain ⟨h1, e1, f1, g1⟩ := gl_leaf (rec := f_O_gainsByLie k) (v5 := nI U) x hp hc hr (by omega) hd hm g
    have hF : lieF A p (nI r) 0 pre = if lieO A p (nI r) pre then some pre else none := rfl
    refine ⟨h1, ?_, f1, ?_⟩
    · have e2 : f_O_gainsByLie (k + 1) [.ref 84, .int (nI p), .int (nI r), .int (nI (pre.length + 0)), .int (nI pre.length), .int (nI U)] h = some (some (.int (if lieO A p (nI r) pre then 1 else 0)), h1) := e1
      rw [e2, hF]
      cases lieO A p (nI r) pre <;> rfl
    · rw [hF]
      cases lieO A p (nI r) pre <;> exact g1
  | succ n ih =>
    intro fuel pre U h hf hl u hd hm x g
    obtain ⟨k, rfl⟩ : ∃ k, fuel = k + 1 := ⟨fuel - 1, by omega⟩
    have hs := x.1.1.1
    have hls := lie_s (n := n) (hon := nI r) u
    have hL := loop_wp (lb := 1) (lc := 2) (c := lc_O_gainsByLie_1 (f_O_gainsByLie k)) (b := lb_O_gainsByLie_1 (f_O_gainsByLie k)) (u := lu_O_gainsByLie_1 (f_O_gainsByLie k)) (nP A p)
      (fun i st => ∃ h', st = ([.ref 84, .int (nI p), .int (nI r), .int (nI (pre.length + (n + 1))), .int (nI pre.length), .int (nI U), .int (nI i)], h') ∧ Fr (Wgl p) h h' ∧ GL A p pre h' ∧ ∀ m, m < i → (!U.testBit m && (lieF A p (nI r) n (pre ++ [bP A p m])).isSome) = false)
      (fun q => ∃ h', Fr (Wgl p) h h' ∧ GL A p ((lieF A p (nI r) (n + 1) pre).getD pre) h' ∧ ((∃ K, q = (.inr (some (.int (nI 1))), (K, h')) ∧ (lieF A p (nI r) (n + 1) pre).isSome = true) ∨ (∃ K, q = (.inl 0, (K, h')) ∧ (lieF A p (nI r) (n + 1) pre).isSome = false)))
      ?_ ?_ ([.ref 84, .int (nI p), .int (nI r), .int (nI (pre.length + (n + 1))), .int (nI pre.length), .int (nI U), .int (nI 0)], h) ⟨h, rfl, Fr_refl _ _, g, fun m hm => by omega⟩
    · obtain ⟨q, e, h1, f1, g1, ⟨K, rfl, hz⟩ | ⟨K, rfl, hz⟩⟩ := hL
      · refine ⟨h1, ?_, f1, g1⟩
        rw [hz]
        have hs1 := Fr_shape hs f1
        have e0 : f_O_gainsByLie (k + 1) = j_meth 2 7 (body_O_gainsByLie (f_O_gainsByLie k)) := rfl
        rw [e0]
        clear hls f1 g1 g x u hz ih
        generalize f_O_gainsByLie k = rec at *
        generalize pre.length = d at *
        simp only [nI_0] at e
        have y1 : ¬ d + (n + 1) ≤ d := by omega
        have y2 : ¬ 5 ≤ d := by omega
        simp (disch := first | assumption | omega) [body_O_gainsByLie, j_meth, j_out, j_rok, j_pad, lg_sl, s_seq_w, isN_inl, isN_inr, s_if, jb, x_c, x_iloc, x_aloc, x_lloc, x_bin, x_un, o_add, o_sub, o_mul, o_and, o_or, o_xor, o_shl, o_shr, o_ushr, o_max, o_min, o_i2b, o_i2c, o_i2l, o_l2i, x_fld, j_fget, x_idx, j_aget, x_len, j_alen, x_ofb, x_ite, xs_nil, xs_cons, x_callv, x_calls, s_callv, s_calls, j_recv, j_ret, j_retv, b_cmp, b_and, b_or, b_not, b_ofi, b_ite, b_true, s_skip, s_set, j_ty, j_lset, j_kill, s_inc, s_fput, j_fput, s_fop, s_aput, j_aput, j_nar, s_aop, s_ret, s_retv, s_go, s_pop, x_linc, x_finc, Value.category, if_icmp.holds, List.flatMap_cons, List.flatMap_nil, List.length_cons, List.length_append, List.length_nil, List.set_cons_succ, List.set_cons_zero, List.getElem?_cons_succ, List.getElem?_cons_zero, List.replicate, ite_and', ite_or', ite_int', nI_leI, nI_ltI, nI_eq, nI_add, nI_1, pk_mul, nI_clamp, n_in', nI_pos', nI_pos, n_m1e, n_01, n_10, sT_1, sR_1_0, sR_1_1, sR_1_2, sR_1_3, sR_1_4, sR_1_5, sR_1_6, sR_1_7, sR_1_8, sR_1_9, sT_2, sT_3, sT_4, sT_5, sT_6, sT_7, sT_8, sT_9, sT_10, sT_11, sT_12, sT_13, sT_14, sR_2_1, sR_2_2, sR_2_3, sR_2_4, sR_2_5, sR_2_6, sR_2_7, sR_2_8, sR_2_9, sR_2_10, sR_2_11, sR_2_12, sT_15, sT_16, sT_17, sT_18, sT_19, sT_20, sT_21, sT_22, sT_23, sR_15_1, sR_15_2, sR_15_3, sR_15_4, sR_15_5, sR_15_6, sR_15_7, sR_15_8, sT_24, sT_25, sT_26, sT_27, sT_28, sT_29, sR_24_1, sR_24_2, sR_24_3, sR_24_4, sR_24_5, sT_71, sT_72, sR_71_0, sR_71_1, sR_71_2, sR_71_3, sR_71_4, sT_73, sT_74, sT_75, sR_73_0, sR_73_1, sR_73_2, sR_73_3, sR_73_4, sR_73_5, sT_84, sT_85, sT_86, sT_87, sR_84_0, sR_84_1, sR_84_2, sR_84_3, sR_84_4, sR_84_5, sT_88, sT_89, sR_88_0, sT_90, sT_91, sR_90_0, y1, y2, nI_0, e, n_e1]
      · refine ⟨h1, ?_, f1, g1⟩
        rw [hz]
        have hs1 := Fr_shape hs f1
        have e0 : f_O_gainsByLie (k + 1) = j_meth 2 7 (body_O_gainsByLie (f_O_gainsByLie k)) := rfl
        rw [e0]
        clear hls f1 g1 g x u hz ih
        generalize f_O_gainsByLie k = rec at *
        generalize pre.length = d at *
        simp only [nI_0] at e
        have y1 : ¬ d + (n + 1) ≤ d := by omega
        have y2 : ¬ 5 ≤ d := by omega
        simp (disch := first | assumption | omega) [body_O_gainsByLie, j_meth, j_out, j_rok, j_pad, lg_sl, s_seq_w, isN_inl, isN_inr, s_if, jb, x_c, x_iloc, x_aloc, x_lloc, x_bin, x_un, o_add, o_sub, o_mul, o_and, o_or, o_xor, o_shl, o_shr, o_ushr, o_max, o_min, o_i2b, o_i2c, o_i2l, o_l2i, x_fld, j_fget, x_idx, j_aget, x_len, j_alen, x_ofb, x_ite, xs_nil, xs_cons, x_callv, x_calls, s_callv, s_calls, j_recv, j_ret, j_retv, b_cmp, b_and, b_or, b_not, b_ofi, b_ite, b_true, s_skip, s_set, j_ty, j_lset, j_kill, s_inc, s_fput, j_fput, s_fop, s_aput, j_aput, j_nar, s_aop, s_ret, s_retv, s_go, s_pop, x_linc, x_finc, Value.category, if_icmp.holds, List.flatMap_cons, List.flatMap_nil, List.length_cons, List.length_append, List.length_nil, List.set_cons_succ, List.set_cons_zero, List.getElem?_cons_succ, List.getElem?_cons_zero, List.replicate, ite_and', ite_or', ite_int', nI_leI, nI_ltI, nI_eq, nI_add, nI_1, pk_mul, nI_clamp, n_in', nI_pos', nI_pos, n_m1e, n_01, n_10, sT_1, sR_1_0, sR_1_1, sR_1_2, sR_1_3, sR_1_4, sR_1_5, sR_1_6, sR_1_7, sR_1_8, sR_1_9, sT_2, sT_3, sT_4, sT_5, sT_6, sT_7, sT_8, sT_9, sT_10, sT_11, sT_12, sT_13, sT_14, sR_2_1, sR_2_2, sR_2_3, sR_2_4, sR_2_5, sR_2_6, sR_2_7, sR_2_8, sR_2_9, sR_2_10, sR_2_11, sR_2_12, sT_15, sT_16, sT_17, sT_18, sT_19, sT_20, sT_21, sT_22, sT_23, sR_15_1, sR_15_2, sR_15_3, sR_15_4, sR_15_5, sR_15_6, sR_15_7, sR_15_8, sT_24, sT_25, sT_26, sT_27, sT_28, sT_29, sR_24_1, sR_24_2, sR_24_3, sR_24_4, sR_24_5, sT_71, sT_72, sR_71_0, sR_71_1, sR_71_2, sR_71_3, sR_71_4, sT_73, sT_74, sT_75, sR_73_0, sR_73_1, sR_73_2, sR_73_3, sR_73_4, sR_73_5, sT_84, sT_85, sT_86, sT_87, sR_84_0, sR_84_1, sR_84_2, sR_84_3, sR_84_4, sR_84_5, sT_88, sT_89, sR_88_0, sT_90, sT_91, sR_90_0, y1, y2, nI_0, e]
    · rintro i st hi ⟨h1, rfl, f1, g1, hall⟩
      have x1 := OT_fr x f1 fun a j q => by have := Wgl_71 q; omega
      have hs1 := x1.1.1.1
      have cb := x1.1.1.2.2.1
      have c11 : hI h1 11 p = nI (nP A p) := (cb.2.2.2 p (by omega)).1
      obtain ⟨b1, b2, b3⟩ := bP_ok hi
      have c12 : hI h1 12 (5 * p + i) = nI (bP A p i) := by
        have := (cb.2.1 _ b1).2.2.2.2.2.2.2
        rw [b2, b3] at this
        exact this
      have hU := u.1
      have hbt := n_bit (a := U) (k := i) (by omega) (by omega)
      have h00 : (nI 0 = 0) = True := by decide
      have h10' : (nI 1 = 0) = False := by decide
      have h10 : ((1 : Int32) = 0) = False := by decide
      by_cases z : U.testBit i = true
      · left
        rw [z] at hbt
        simp only [Bool.toNat_true] at hbt
        refine ⟨([.ref 84, .int (nI p), .int (nI r), .int (nI (pre.length + (n + 1))), .int (nI pre.length), .int (nI U), .int (nI (i + 1))], h1), ?_, h1, rfl, f1, g1, fun m hm => ?_⟩
        · clear hls f1 g1 g x x1 u ih hall cb
          generalize f_O_gainsByLie k = rec at *
          generalize pre.length = d at *
          simp (disch := first | assumption | omega) [lstp, lc_O_gainsByLie_1, lb_O_gainsByLie_1, lu_O_gainsByLie_1, j_meth, j_out, j_rok, j_pad, lg_sl, s_seq_w, isN_inl, isN_inr, s_if, jb, x_c, x_iloc, x_aloc, x_lloc, x_bin, x_un, o_add, o_sub, o_mul, o_and, o_or, o_xor, o_shl, o_shr, o_ushr, o_max, o_min, o_i2b, o_i2c, o_i2l, o_l2i, x_fld, j_fget, x_idx, j_aget, x_len, j_alen, x_ofb, x_ite, xs_nil, xs_cons, x_callv, x_calls, s_callv, s_calls, j_recv, j_ret, j_retv, b_cmp, b_and, b_or, b_not, b_ofi, b_ite, b_true, s_skip, s_set, j_ty, j_lset, j_kill, s_inc, s_fput, j_fput, s_fop, s_aput, j_aput, j_nar, s_aop, s_ret, s_retv, s_go, s_pop, x_linc, x_finc, Value.category, if_icmp.holds, List.flatMap_cons, List.flatMap_nil, List.length_cons, List.length_append, List.length_nil, List.set_cons_succ, List.set_cons_zero, List.getElem?_cons_succ, List.getElem?_cons_zero, List.replicate, ite_and', ite_or', ite_int', nI_leI, nI_ltI, nI_eq, nI_add, nI_1, pk_mul, nI_clamp, n_in', nI_pos', nI_pos, n_m1e, n_01, n_10, sT_1, sR_1_0, sR_1_1, sR_1_2, sR_1_3, sR_1_4, sR_1_5, sR_1_6, sR_1_7, sR_1_8, sR_1_9, sT_2, sT_3, sT_4, sT_5, sT_6, sT_7, sT_8, sT_9, sT_10, sT_11, sT_12, sT_13, sT_14, sR_2_1, sR_2_2, sR_2_3, sR_2_4, sR_2_5, sR_2_6, sR_2_7, sR_2_8, sR_2_9, sR_2_10, sR_2_11, sR_2_12, sT_15, sT_16, sT_17, sT_18, sT_19, sT_20, sT_21, sT_22, sT_23, sR_15_1, sR_15_2, sR_15_3, sR_15_4, sR_15_5, sR_15_6, sR_15_7, sR_15_8, sT_24, sT_25, sT_26, sT_27, sT_28, sT_29, sR_24_1, sR_24_2, sR_24_3, sR_24_4, sR_24_5, sT_71, sT_72, sR_71_0, sR_71_1, sR_71_2, sR_71_3, sR_71_4, sT_73, sT_74, sT_75, sR_73_0, sR_73_1, sR_73_2, sR_73_3, sR_73_4, sR_73_5, sT_84, sT_85, sT_86, sT_87, sR_84_0, sR_84_1, sR_84_2, sR_84_3, sR_84_4, sR_84_5, sT_88, sT_89, sR_88_0, sT_90, sT_91, sR_90_0, c11, hi, hbt, h10']
        · by_cases e : m = i
          · rw [e, z]; rfl
          · exact hall m (by omega)
      · have z' : U.testBit i = false := by simpa using z
        rw [z'] at hbt
        simp only [Bool.toNat_false] at hbt
        have hnm : bP A p i ∉ pre := fun q => by rw [(u.2 i hi).mpr q] at z'; cases z'
        have f2 : Fr (Wgl p) h1 (hSetI h1 85 (5 * p + pre.length) (nI (bP A p i))) := Fr_set _ (Or.inr (Or.inl ⟨rfl, by omega, by omega⟩))
        have x2 := OT_fr x1 f2 fun a j q => by have := Wgl_71 q; omega
        have hs2 := x2.1.1.1
        have g2 : GL A p (pre ++ [bP A p i]) (hSetI h1 85 (5 * p + pre.length) (nI (bP A p i))) := by
          refine ⟨fun q hq e => ⟨by rw [hI_setI, if_neg (by omega)]; exact (g1.1 q hq e).1, fun m hm => ?_⟩, fun m hm => ?_⟩
          · have := (lL_ok w q).1
            rw [hI_setI, if_neg (by omega)]; exact (g1.1 q hq e).2 m hm
          · simp only [List.length_append, List.length_cons, List.length_nil] at hm
            rw [hI_setI]
            by_cases e : m = pre.length
            · rw [if_pos ⟨rfl, by omega⟩, e]; simp
            · rw [if_neg (by omega), g1.2 m (by omega), List.getD_eq_getElem?_getD, List.getD_eq_getElem?_getD, List.getElem?_append_left (by omega)]
        have hlen : (pre ++ [bP A p i]).length = pre.length + 1 := by simp
        have hd2 : (pre ++ [bP A p i]).Nodup := by
          rw [List.nodup_append]
          refine ⟨hd, by simp, fun y hy t ht e => ?_⟩
          simp only [List.mem_singleton] at ht
          subst ht; subst e; exact hnm hy
        have hm2 : ∀ b ∈ pre ++ [bP A p i], b < aNb A ∧ aPe A b = p := fun b hb => by
          rcases List.mem_append.mp hb with q | q
          · exact hm b q
          · simp only [List.mem_singleton] at q
            subst q; exact ⟨b1, b2⟩
        obtain ⟨h3, e3, f3, g3⟩ := ih k (pre ++ [bP A p i]) (U ||| 2 ^ i) _ (by omega) (by omega) (usd_app h5 hi u) hd2 hm2 x2 g2
        rw [hlen] at e3
        have hs3 := Fr_shape hs2 f3
        have hor : nI U ||| nI (2 ^ i) = nI (U ||| 2 ^ i) := n_or _ _
        have hsh := n_shl 1 (k := i) (by omega)
        rw [Nat.one_mul] at hsh
        have f123 := Fr_trans f1 (Fr_trans f2 f3)
        have hlx : pre.length + 1 + n = pre.length + (n + 1) := by omega
        rw [hlx] at e3
        by_cases y : (lieF A p (nI r) n (pre ++ [bP A p i])).isSome = true
        · right
          have hf1 := fst1_of (p := fun i => !U.testBit i && (lieF A p (nI r) n (pre ++ [bP A p i])).isSome) hi (by simp only [z', y]; rfl) hall
          rw [hf1] at hls
          simp only at hls
          rw [y] at e3
          simp only [if_true] at e3
          refine ⟨(.inr (some (.int (nI 1))), ([.ref 84, .int (nI p), .int (nI r), .int (nI (pre.length + (n + 1))), .int (nI pre.length), .int (nI U), .int (nI i)], h3)), ?_, h3, f123, ?_, Or.inl ⟨_, rfl, by rw [hls]; exact y⟩⟩
          · clear hls f1 f2 f3 f123 g1 g2 g3 g x x1 x2 u ih hall cb hd2 hm2 hf1
            generalize f_O_gainsByLie k = rec at *
            generalize pre.length = d at *
            generalize bP A p i = bb at *
            generalize hh2 : hSetI h1 85 (5 * p + d) (nI bb) = h2 at *
            have e5 : p * 5 + i = 5 * p + i := by omega
            have e5' : p * 5 + d = 5 * p + d := by omega
            simp (disch := first | assumption | omega) [lstp, lc_O_gainsByLie_1, lb_O_gainsByLie_1, lu_O_gainsByLie_1, j_meth, j_out, j_rok, j_pad, lg_sl, s_seq_w, isN_inl, isN_inr, s_if, jb, x_c, x_iloc, x_aloc, x_lloc, x_bin, x_un, o_add, o_sub, o_mul, o_and, o_or, o_xor, o_shl, o_shr, o_ushr, o_max, o_min, o_i2b, o_i2c, o_i2l, o_l2i, x_fld, j_fget, x_idx, j_aget, x_len, j_alen, x_ofb, x_ite, xs_nil, xs_cons, x_callv, x_calls, s_callv, s_calls, j_recv, j_ret, j_retv, b_cmp, b_and, b_or, b_not, b_ofi, b_ite, b_true, s_skip, s_set, j_ty, j_lset, j_kill, s_inc, s_fput, j_fput, s_fop, s_aput, j_aput, j_nar, s_aop, s_ret, s_retv, s_go, s_pop, x_linc, x_finc, Value.category, if_icmp.holds, List.flatMap_cons, List.flatMap_nil, List.length_cons, List.length_append, List.length_nil, List.set_cons_succ, List.set_cons_zero, List.getElem?_cons_succ, List.getElem?_cons_zero, List.replicate, ite_and', ite_or', ite_int', nI_leI, nI_ltI, nI_eq, nI_add, nI_1, pk_mul, nI_clamp, n_in', nI_pos', nI_pos, n_m1e, n_01, n_10, sT_1, sR_1_0, sR_1_1, sR_1_2, sR_1_3, sR_1_4, sR_1_5, sR_1_6, sR_1_7, sR_1_8, sR_1_9, sT_2, sT_3, sT_4, sT_5, sT_6, sT_7, sT_8, sT_9, sT_10, sT_11, sT_12, sT_13, sT_14, sR_2_1, sR_2_2, sR_2_3, sR_2_4, sR_2_5, sR_2_6, sR_2_7, sR_2_8, sR_2_9, sR_2_10, sR_2_11, sR_2_12, sT_15, sT_16, sT_17, sT_18, sT_19, sT_20, sT_21, sT_22, sT_23, sR_15_1, sR_15_2, sR_15_3, sR_15_4, sR_15_5, sR_15_6, sR_15_7, sR_15_8, sT_24, sT_25, sT_26, sT_27, sT_28, sT_29, sR_24_1, sR_24_2, sR_24_3, sR_24_4, sR_24_5, sT_71, sT_72, sR_71_0, sR_71_1, sR_71_2, sR_71_3, sR_71_4, sT_73, sT_74, sT_75, sR_73_0, sR_73_1, sR_73_2, sR_73_3, sR_73_4, sR_73_5, sT_84, sT_85, sT_86, sT_87, sR_84_0, sR_84_1, sR_84_2, sR_84_3, sR_84_4, sR_84_5, sT_88, sT_89, sR_88_0, sT_90, sT_91, sR_90_0, c11, hi, hbt, h00, e5, c12, e5', hh2, hsh, hor, e3, h10]
          · rw [hls]
            cases hv : lieF A p (nI r) n (pre ++ [bP A p i]) with
            | none => rw [hv] at y; cases y
            | some v => rw [hv] at g3; exact g3
        · left
          have y' : (lieF A p (nI r) n (pre ++ [bP A p i])).isSome = false := by simpa using y
          rw [y'] at e3
          simp only [Bool.false_eq_true, if_false] at e3
          have g3' : GL A p pre h3 := by
            cases hv : lieF A p (nI r) n (pre ++ [bP A p i]) with
            | none => rw [hv] at g3; exact GL_pre g3
            | some v => rw [hv] at y'; cases y'
          refine ⟨([.ref 84, .int (nI p), .int (nI r), .int (nI (pre.length + (n + 1))), .int (nI pre.length), .int (nI U), .int (nI (i + 1))], h3), ?_, h3, rfl, f123, g3', fun m hm => ?_⟩
          · clear hls f1 f2 f3 f123 g1 g2 g3 g3' g x x1 x2 u ih hall cb hd2 hm2
            generalize f_O_gainsByLie k = rec at *
            generalize pre.length = d at *
            generalize bP A p i = bb at *
            generalize hh2 : hSetI h1 85 (5 * p + d) (nI bb) = h2 at *
            have e5 : p * 5 + i = 5 * p + i := by omega
            have e5' : p * 5 + d = 5 * p + d := by omega
            simp (disch := first | assumption | omega) [lstp, lc_O_gainsByLie_1, lb_O_gainsByLie_1, lu_O_gainsByLie_1, j_meth, j_out, j_rok, j_pad, lg_sl, s_seq_w, isN_inl, isN_inr, s_if, jb, x_c, x_iloc, x_aloc, x_lloc, x_bin, x_un, o_add, o_sub, o_mul, o_and, o_or, o_xor, o_shl, o_shr, o_ushr, o_max, o_min, o_i2b, o_i2c, o_i2l, o_l2i, x_fld, j_fget, x_idx, j_aget, x_len, j_alen, x_ofb, x_ite, xs_nil, xs_cons, x_callv, x_calls, s_callv, s_calls, j_recv, j_ret, j_retv, b_cmp, b_and, b_or, b_not, b_ofi, b_ite, b_true, s_skip, s_set, j_ty, j_lset, j_kill, s_inc, s_fput, j_fput, s_fop, s_aput, j_aput, j_nar, s_aop, s_ret, s_retv, s_go, s_pop, x_linc, x_finc, Value.category, if_icmp.holds, List.flatMap_cons, List.flatMap_nil, List.length_cons, List.length_append, List.length_nil, List.set_cons_succ, List.set_cons_zero, List.getElem?_cons_succ, List.getElem?_cons_zero, List.replicate, ite_and', ite_or', ite_int', nI_leI, nI_ltI, nI_eq, nI_add, nI_1, pk_mul, nI_clamp, n_in', nI_pos', nI_pos, n_m1e, n_01, n_10, sT_1, sR_1_0, sR_1_1, sR_1_2, sR_1_3, sR_1_4, sR_1_5, sR_1_6, sR_1_7, sR_1_8, sR_1_9, sT_2, sT_3, sT_4, sT_5, sT_6, sT_7, sT_8, sT_9, sT_10, sT_11, sT_12, sT_13, sT_14, sR_2_1, sR_2_2, sR_2_3, sR_2_4, sR_2_5, sR_2_6, sR_2_7, sR_2_8, sR_2_9, sR_2_10, sR_2_11, sR_2_12, sT_15, sT_16, sT_17, sT_18, sT_19, sT_20, sT_21, sT_22, sT_23, sR_15_1, sR_15_2, sR_15_3, sR_15_4, sR_15_5, sR_15_6, sR_15_7, sR_15_8, sT_24, sT_25, sT_26, sT_27, sT_28, sT_29, sR_24_1, sR_24_2, sR_24_3, sR_24_4, sR_24_5, sT_71, sT_72, sR_71_0, sR_71_1, sR_71_2, sR_71_3, sR_71_4, sT_73, sT_74, sT_75, sR_73_0, sR_73_1, sR_73_2, sR_73_3, sR_73_4, sR_73_5, sT_84, sT_85, sT_86, sT_87, sR_84_0, sR_84_1, sR_84_2, sR_84_3, sR_84_4, sR_84_5, sT_88, sT_89, sR_88_0, sT_90, sT_91, sR_90_0, c11, hi, hbt, h00, e5, c12, e5', hh2, hsh, hor, e3]
          · by_cases e : m = i
            · rw [e, y']; simp
            · exact hall m (by omega)
    · rintro st ⟨h1, rfl, f1, g1, hall⟩
      have x1 := OT_fr x f1 fun a j q => by have := Wgl_71 q; omega
      have hs1 := x1.1.1.1
      have c11 : hI h1 11 p = nI (nP A p) := (x1.1.1.2.2.1.2.2.2 p (by omega)).1
      have hf0 := fst1_no hall
      rw [hf0] at hls
      simp only at hls
      refine ⟨(.inl 0, ([.ref 84, .int (nI p), .int (nI r), .int (nI (pre.length + (n + 1))), .int (nI pre.length), .int (nI U), .int (nI (nP A p))], h1)), ?_, h1, f1, by rw [hls]; exact g1, Or.inr ⟨_, rfl, by rw [hls]; rfl⟩⟩
      clear hls f1 g1 g x x1 u ih hall hf0
      generalize f_O_gainsByLie k = rec at *
      generalize pre.length = d at *
      simp (disch := first | assumption | omega) [lstp, lc_O_gainsByLie_1, lb_O_gainsByLie_1, lu_O_gainsByLie_1, j_meth, j_out, j_rok, j_pad, lg_sl, s_seq_w, isN_inl, isN_inr, s_if, jb, x_c, x_iloc, x_aloc, x_lloc, x_bin, x_un, o_add, o_sub, o_mul, o_and, o_or, o_xor, o_shl, o_shr, o_ushr, o_max, o_min, o_i2b, o_i2c, o_i2l, o_l2i, x_fld, j_fget, x_idx, j_aget, x_len, j_alen, x_ofb, x_ite, xs_nil, xs_cons, x_callv, x_calls, s_callv, s_calls, j_recv, j_ret, j_retv, b_cmp, b_and, b_or, b_not, b_ofi, b_ite, b_true, s_skip, s_set, j_ty, j_lset, j_kill, s_inc, s_fput, j_fput, s_fop, s_aput, j_aput, j_nar, s_aop, s_ret, s_retv, s_go, s_pop, x_linc, x_finc, Value.category, if_icmp.holds, List.flatMap_cons, List.flatMap_nil, List.length_cons, List.length_append, List.length_nil, List.set_cons_succ, List.set_cons_zero, List.getElem?_cons_succ, List.getElem?_cons_zero, List.replicate, ite_and', ite_or', ite_int', nI_leI, nI_ltI, nI_eq, nI_add, nI_1, pk_mul, nI_clamp, n_in', nI_pos', nI_pos, n_m1e, n_01, n_10, sT_1, sR_1_0, sR_1_1, sR_1_2, sR_1_3, sR_1_4, sR_1_5, sR_1_6, sR_1_7, sR_1_8, sR_1_9, sT_2, sT_3, sT_4, sT_5, sT_6, sT_7, sT_8, sT_9, sT_10, sT_11, sT_12, sT_13, sT_14, sR_2_1, sR_2_2, sR_2_3, sR_2_4, sR_2_5, sR_2_6, sR_2_7, sR_2_8, sR_2_9, sR_2_10, sR_2_11, sR_2_12, sT_15, sT_16, sT_17, sT_18, sT_19, sT_20, sT_21, sT_22, sT_23, sR_15_1, sR_15_2, sR_15_3, sR_15_4, sR_15_5, sR_15_6, sR_15_7, sR_15_8, sT_24, sT_25, sT_26, sT_27, sT_28, sT_29, sR_24_1, sR_24_2, sR_24_3, sR_24_4, sR_24_5, sT_71, sT_72, sR_71_0, sR_71_1, sR_71_2, sR_71_3, sR_71_4, sT_73, sT_74, sT_75, sR_73_0, sR_73_1, sR_73_2, sR_73_3, sR_73_4, sR_73_5, sT_84, sT_85, sT_86, sT_87, sR_84_0, sR_84_1, sR_84_2, sR_84_3, sR_84_4, sR_84_5, sT_88, sT_89, sR_88_0, sT_90, sT_91, sR_90_0, c11]
