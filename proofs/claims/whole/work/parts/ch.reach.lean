/-! Standing: reach, isBeyondAny, reachNext -/
def Wbf (di qu co a j : Nat) : Prop := a = di ∨ a = qu ∨ a = co ∨ (a = 77 ∧ j = 13)
def BC (A : AS) (σ : Nat → Nat) (ra rl so di qu co : Nat) (h : jHp) : Prop := Shape h ∧ RKa A (sAllR A) σ ra rl h ∧ (hR h 77 9 = so ∧ hT h so = (1, rl) ∧ so ≠ 0) ∧ (hR h 77 10 = di ∧ hT h di = (1, rl) ∧ di ≠ 0) ∧ (hR h 77 11 = qu ∧ hT h qu = (1, rl) ∧ qu ≠ 0) ∧ (hR h 77 12 = co ∧ hT h co = (1, rl) ∧ co ≠ 0) ∧ hI h 77 7 = nI (sAllR A).length ∧ (∀ i, i < (sAllR A).length → hI h so i = nI (σ i)) ∧ ((so ≠ di ∧ so ≠ qu ∧ so ≠ co) ∧ (di ≠ qu ∧ di ≠ co ∧ qu ≠ co) ∧ (so ≠ 77 ∧ di ≠ 77 ∧ qu ≠ 77 ∧ co ≠ 77))
theorem BC_fr {A : AS} {σ : Nat → Nat} {ra rl so di qu co : Nat} {h h' : jHp} (b : BC A σ ra rl so di qu co h) (f : Fr (Wbf di qu co) h h') : BC A σ ra rl so di qu co h' := by
  obtain ⟨b1, ⟨k1, k0, k2, k3, k4, k5⟩, ⟨c1, c2, c3⟩, ⟨d1, d2, d3⟩, ⟨e1, e2, e3⟩, ⟨g1, g2, g3⟩, b7, b8, n⟩ := b
  have f0 := f
  obtain ⟨⟨f1, f2, f3, f4, f5⟩, f6⟩ := f
  refine ⟨Fr_shape b1 f0, ⟨by rw [f2]; exact k1, k0, by rw [f1]; exact k2, k3, k4, fun i hi => by rw [f3]; exact k5 i hi⟩, ⟨by rw [f2]; exact c1, by rw [f1]; exact c2, c3⟩, ⟨by rw [f2]; exact d1, by rw [f1]; exact d2, d3⟩, ⟨by rw [f2]; exact e1, by rw [f1]; exact e2, e3⟩, ⟨by rw [f2]; exact g1, by rw [f1]; exact g2, g3⟩, ?_, fun i hi => ?_, n⟩
  · rw [f6 77 7 ?_]
    · exact b7
    · rintro (q | q | q | ⟨-, q⟩)
      · exact n.2.2.2.1 q.symm
      · exact n.2.2.2.2.1 q.symm
      · exact n.2.2.2.2.2 q.symm
      · cases q
  · rw [f6 so i ?_]
    · exact b8 i hi
    · rintro (q | q | q | ⟨q, -⟩)
      · exact n.1.1 q
      · exact n.1.2.1 q
      · exact n.1.2.2 q
      · exact n.2.2.1 q
/-- what is reached -/
def DB (N di qu : Nat) (Q : List Nat) (f : Nat → Nat) (h : jHp) : Prop := (∀ i, i < N → hI h di i = if i ∈ Q then nI (f i) else -1) ∧ (∀ a, a < Q.length → hI h qu a = nI (Q.getD a 0)) ∧ hI h 77 13 = nI Q.length
def Wrc (di qu a j : Nat) : Prop := a = di ∨ a = qu ∨ (a = 77 ∧ j = 13)
theorem Wrc_bf {di qu co a j : Nat} (q : Wrc di qu a j) : Wbf di qu co a j := by
  rcases q with q | q | q
  · exact Or.inl q
  · exact Or.inr (Or.inl q)
  · exact Or.inr (Or.inr (Or.inr q))
theorem e_St_reach {A : AS} {σ : Nat → Nat} {ra rl so di qu co : Nat} {h : jHp} (b : BC A σ ra rl so di qu co h) {Q : List Nat} {f : Nat → Nat} (db : DB (sAllR A).length di qu Q f h) {i d : Nat} (hi : i < (sAllR A).length) (hd : d < 2 ^ 30) (nd : Q.Nodup) (hQ : ∀ j ∈ Q, j < (sAllR A).length) (hfb : ∀ j ∈ Q, f j < 2 ^ 30) (hfi : i ∉ Q → f i = d) : ∃ h', f_St_reach [.ref 77, .int (nI i), .int (nI d)] h = some (none, h') ∧ Fr (Wrc di qu) h h' ∧ DB (sAllR A).length di qu (if i ∈ Q then Q else Q ++ [i]) f h' := by
  obtain ⟨hs, ⟨-, -, -, hNr, hrl, -⟩, -, ⟨d1, d2, d3⟩, ⟨e1, e2, e3⟩, -, -, -, n⟩ := b
  obtain ⟨q1, q2, q3⟩ := db
  have ndq : di ≠ qu := n.2.1.1
  have nd7 : di ≠ 77 := n.2.2.2.1
  have nq7 : qu ≠ 77 := n.2.2.2.2.1
  clear n
  have t77 := sT_77 hs
  have hin : j_in (nI i) rl = true := n_in' (by omega) (by omega)
  have gi := q1 i hi
  by_cases hiQ : i ∈ Q
  · rw [if_pos hiQ] at gi
    have hne : (nI (f i) = -1) = False := n_m1e (by have := hfb i hiQ; omega)
    refine ⟨h, ?_, Fr_refl _ _, by rw [if_pos hiQ]; exact ⟨q1, q2, q3⟩⟩
    clear q1 q2
    generalize f i = F at *
    simp (disch := first | assumption | omega) [f_St_reach, body_St_reach, j_meth, j_out, j_rok, j_pad, lg_sl, s_seq_w, isN_inl, isN_inr, s_if, jb, x_c, x_iloc, x_aloc, x_lloc, x_bin, x_un, o_add, o_sub, o_mul, o_and, o_or, o_xor, o_shl, o_shr, o_ushr, o_max, o_min, o_i2b, o_i2c, o_i2l, o_l2i, x_fld, j_fget, x_idx, j_aget, x_len, j_alen, x_ofb, x_ite, xs_nil, xs_cons, x_callv, x_calls, s_callv, s_calls, j_recv, j_ret, j_retv, b_cmp, b_and, b_or, b_not, b_ofi, b_ite, b_true, s_skip, s_set, j_ty, j_lset, j_kill, s_inc, s_fput, j_fput, s_fop, s_aput, j_aput, j_nar, s_aop, s_ret, s_retv, s_go, s_pop, x_linc, x_finc, Value.category, if_icmp.holds, List.flatMap_cons, List.flatMap_nil, List.length_cons, List.length_append, List.length_nil, List.set_cons_succ, List.set_cons_zero, List.getElem?_cons_succ, List.getElem?_cons_zero, List.replicate, ite_and', ite_or', ite_int', nI_leI, nI_ltI, nI_eq, nI_add, nI_1, pk_mul, nI_clamp, n_in', nI_pos', nI_pos, n_m1e, n_01, n_10, sT_1, sR_1_0, sR_1_1, sR_1_2, sR_1_3, sR_1_4, sR_1_5, sR_1_6, sR_1_7, sR_1_8, sR_1_9, sT_2, sT_3, sT_4, sT_5, sT_6, sT_7, sT_8, sT_9, sT_10, sT_11, sT_12, sT_13, sT_14, sR_2_1, sR_2_2, sR_2_3, sR_2_4, sR_2_5, sR_2_6, sR_2_7, sR_2_8, sR_2_9, sR_2_10, sR_2_11, sR_2_12, sT_15, sT_16, sT_17, sT_18, sT_19, sT_20, sT_21, sT_22, sT_23, sR_15_1, sR_15_2, sR_15_3, sR_15_4, sR_15_5, sR_15_6, sR_15_7, sR_15_8, sT_24, sT_25, sT_26, sT_27, sT_28, sT_29, sR_24_1, sR_24_2, sR_24_3, sR_24_4, sR_24_5, sT_71, sT_72, sR_71_0, sR_71_1, sR_71_2, sR_71_3, sR_71_4, sT_73, sT_74, sT_75, sR_73_0, sR_73_1, sR_73_2, sR_73_3, sR_73_4, sR_73_5, sT_84, sT_85, sT_86, sT_87, sR_84_0, sR_84_1, sR_84_2, sR_84_3, sR_84_4, sR_84_5, sT_88, sT_89, sR_88_0, sT_90, sT_91, sR_90_0, t77, d1, d2, d3, hin, gi, hne]
  · rw [if_neg hiQ] at gi
    have hlen : Q.length < (sAllR A).length := by
      have := nd_le (Q := i :: Q) (N := (sAllR A).length) (List.nodup_cons.mpr ⟨hiQ, nd⟩) (fun x hx => by
        rcases List.mem_cons.mp hx with e | e
        · rw [e]; exact hi
        · exact hQ x e)
      rw [List.length_cons] at this
      omega
    have hlr : Q.length < rl := by omega
    have hin2 : j_in (nI Q.length) rl = true := n_in' (by omega) (by omega)
    generalize hh1 : hSetI h di i (nI d) = h1
    generalize hh2 : hSetI h1 qu Q.length (nI i) = h2
    generalize hh3 : hSetI h2 77 13 (nI (Q.length + 1)) = h3
    have I3 : ∀ a k, hI h3 a k = if a = 77 ∧ k = 13 then nI (Q.length + 1) else if a = qu ∧ k = Q.length then nI i else if a = di ∧ k = i then nI d else hI h a k := fun a k => by
      rw [← hh3, hI_setI, ← hh2, hI_setI, ← hh1, hI_setI]
    have f1 : Fr (Wrc di qu) h h1 := by rw [← hh1]; exact Fr_set _ (Or.inl rfl)
    have f2 : Fr (Wrc di qu) h1 h2 := by rw [← hh2]; exact Fr_set _ (Or.inr (Or.inl rfl))
    have f3 : Fr (Wrc di qu) h2 h3 := by rw [← hh3]; exact Fr_set _ (Or.inr (Or.inr ⟨rfl, rfl⟩))
    have hs1 := Fr_shape hs f1
    have hs2 := Fr_shape hs1 f2
    refine ⟨h3, ?_, Fr_trans (Fr_trans f1 f2) f3, ?_⟩
    · have g13 : hI h1 77 13 = nI Q.length := by rw [← hh1, hI_setI, if_neg (fun q => nd7 q.1.symm)]; exact q3
      have g13' : hI h2 77 13 = nI Q.length := by rw [← hh2, hI_setI, if_neg (fun q => nq7 q.1.symm)]; exact g13
      have t1 := sT_77 hs1
      have t2 := sT_77 hs2
      have e1' : hR h1 77 11 = qu := by rw [← hh1]; exact e1
      have e2' : hT h1 qu = (1, rl) := by rw [← hh1]; exact e2
      clear q1 q2 hQ hfb I3 f1 f2 f3 hiQ
      generalize Q.length = LQ at *
      simp (disch := first | assumption | omega) [f_St_reach, body_St_reach, j_meth, j_out, j_rok, j_pad, lg_sl, s_seq_w, isN_inl, isN_inr, s_if, jb, x_c, x_iloc, x_aloc, x_lloc, x_bin, x_un, o_add, o_sub, o_mul, o_and, o_or, o_xor, o_shl, o_shr, o_ushr, o_max, o_min, o_i2b, o_i2c, o_i2l, o_l2i, x_fld, j_fget, x_idx, j_aget, x_len, j_alen, x_ofb, x_ite, xs_nil, xs_cons, x_callv, x_calls, s_callv, s_calls, j_recv, j_ret, j_retv, b_cmp, b_and, b_or, b_not, b_ofi, b_ite, b_true, s_skip, s_set, j_ty, j_lset, j_kill, s_inc, s_fput, j_fput, s_fop, s_aput, j_aput, j_nar, s_aop, s_ret, s_retv, s_go, s_pop, x_linc, x_finc, Value.category, if_icmp.holds, List.flatMap_cons, List.flatMap_nil, List.length_cons, List.length_append, List.length_nil, List.set_cons_succ, List.set_cons_zero, List.getElem?_cons_succ, List.getElem?_cons_zero, List.replicate, ite_and', ite_or', ite_int', nI_leI, nI_ltI, nI_eq, nI_add, nI_1, pk_mul, nI_clamp, n_in', nI_pos', nI_pos, n_m1e, n_01, n_10, sT_1, sR_1_0, sR_1_1, sR_1_2, sR_1_3, sR_1_4, sR_1_5, sR_1_6, sR_1_7, sR_1_8, sR_1_9, sT_2, sT_3, sT_4, sT_5, sT_6, sT_7, sT_8, sT_9, sT_10, sT_11, sT_12, sT_13, sT_14, sR_2_1, sR_2_2, sR_2_3, sR_2_4, sR_2_5, sR_2_6, sR_2_7, sR_2_8, sR_2_9, sR_2_10, sR_2_11, sR_2_12, sT_15, sT_16, sT_17, sT_18, sT_19, sT_20, sT_21, sT_22, sT_23, sR_15_1, sR_15_2, sR_15_3, sR_15_4, sR_15_5, sR_15_6, sR_15_7, sR_15_8, sT_24, sT_25, sT_26, sT_27, sT_28, sT_29, sR_24_1, sR_24_2, sR_24_3, sR_24_4, sR_24_5, sT_71, sT_72, sR_71_0, sR_71_1, sR_71_2, sR_71_3, sR_71_4, sT_73, sT_74, sT_75, sR_73_0, sR_73_1, sR_73_2, sR_73_3, sR_73_4, sR_73_5, sT_84, sT_85, sT_86, sT_87, sR_84_0, sR_84_1, sR_84_2, sR_84_3, sR_84_4, sR_84_5, sT_88, sT_89, sR_88_0, sT_90, sT_91, sR_90_0, t77, d1, d2, d3, hin, gi, q3, e1, e2, hlr, hh1, t1, e1', e2', e3, g13, hin2, hh2, t2, g13', hh3]
    · rw [if_neg hiQ]
      refine ⟨fun j hj => ?_, fun a ha => ?_, ?_⟩
      · rw [I3, if_neg (fun q => nd7 q.1), if_neg (fun q => ndq q.1)]
        by_cases e : j = i
        · subst e
          rw [if_pos ⟨rfl, rfl⟩, if_pos (by simp), hfi hiQ]
        · rw [if_neg (fun q => e q.2), q1 j hj]
          have : (j ∈ Q ++ [i]) = (j ∈ Q) := by
            apply propext
            simp [e]
          simp only [this]
      · rw [I3, if_neg (fun q => nq7 q.1)]
        rw [List.length_append] at ha
        simp only [List.length_cons, List.length_nil] at ha
        by_cases e : a = Q.length
        · rw [if_pos ⟨rfl, e⟩, e]
          simp
        · rw [if_neg (fun q => e q.2), if_neg (fun q => ndq q.1.symm), q2 a (by omega)]
          rw [List.getD_eq_getElem?_getD, List.getD_eq_getElem?_getD, List.getElem?_append_left (by omega)]
      · rw [I3, if_pos ⟨rfl, rfl⟩]
        simp
theorem e_St_isBeyondAny {A : AS} {σ : Nat → Nat} {ra rl so di qu co : Nat} {h : jHp} (w : WF A) (b : BC A σ ra rl so di qu co h) (sok : SOK A (sAllR A) σ) {cv : List Nat} (hc : ∀ a, a < cv.length → hI h co a = nI (cv.getD a 0)) (hcl : ∀ c ∈ cv, c < (sAllR A).length) (hl : cv.length ≤ rl) {i : Nat} (hi : i < (sAllR A).length) (u : Bool) : f_St_isBeyondAny [.ref 77, .int (nI i), .int (nI cv.length), .int (if u then 1 else 0)] h = some (some (.int (if cv.any (fun c => Ru A (sAllR A) σ u i c) then 1 else 0)), h) := by
  obtain ⟨hs, rk, -, -, -, ⟨g1, g2, g3⟩, -, -, -⟩ := b
  have hrl := rk.2.2.2.2.1
  have t77 := sT_77 hs
  have hfr' : ∀ i, i < (sAllR A).length → FRk A ((sAllR A).getD (σ i) 0) := fun i hi => sok.1 _ (sok.2.1 i hi)
  have h10 : ((1 : Int32) = 0) = False := by decide
  have hany : cv.any (fun c => Ru A (sAllR A) σ u i c) = (fst1 (fun a => Ru A (sAllR A) σ u i (cv.getD a 0)) cv.length).isSome := (fst1_any cv (fun c => Ru A (sAllR A) σ u i c) 0).symm
  rw [hany]
  have hL := loop_1 (lb := 1) (lc := 2) (c := lc_St_isBeyondAny_1) (b := lb_St_isBeyondAny_1) (u := lu_St_isBeyondAny_1) cv.length (fun a => (([.ref 77, .int (nI i), .int (nI cv.length), .int (if u then 1 else 0), .int (nI a)], h) : jS)) (fun a => Ru A (sAllR A) σ u i (cv.getD a 0))
    (fun a => (.inr (some (.int (nI 1))), ([.ref 77, .int (nI i), .int (nI cv.length), .int (if u then 1 else 0), .int (nI a)], h)))
    (fun a ha hp => by
      have g := hc a ha
      have eb := e_St_isBeyond hs w rk hfr' hi (hcl _ (getD_mem' (d := 0) ha)) u
      have hb : (if u then sBet A ((sAllR A).getD (σ i) 0) ((sAllR A).getD (σ (cv.getD a 0)) 0) else sBet A ((sAllR A).getD (σ (cv.getD a 0)) 0) ((sAllR A).getD (σ i) 0)) = Ru A (sAllR A) σ u i (cv.getD a 0) := rfl
      rw [hb, hp] at eb
      simp only [if_true] at eb
      have hin : j_in (nI a) rl = true := n_in' (by omega) (by omega)
      clear rk hfr' hc hcl hb hp hany
      generalize cv.getD a 0 = V at *
      generalize cv.length = LL at *
      cases u <;> simp only [if_true, Bool.false_eq_true, if_false] at eb ⊢ <;> simp (disch := first | assumption | omega) [lstp, lc_St_isBeyondAny_1, lb_St_isBeyondAny_1, lu_St_isBeyondAny_1, j_meth, j_out, j_rok, j_pad, lg_sl, s_seq_w, isN_inl, isN_inr, s_if, jb, x_c, x_iloc, x_aloc, x_lloc, x_bin, x_un, o_add, o_sub, o_mul, o_and, o_or, o_xor, o_shl, o_shr, o_ushr, o_max, o_min, o_i2b, o_i2c, o_i2l, o_l2i, x_fld, j_fget, x_idx, j_aget, x_len, j_alen, x_ofb, x_ite, xs_nil, xs_cons, x_callv, x_calls, s_callv, s_calls, j_recv, j_ret, j_retv, b_cmp, b_and, b_or, b_not, b_ofi, b_ite, b_true, s_skip, s_set, j_ty, j_lset, j_kill, s_inc, s_fput, j_fput, s_fop, s_aput, j_aput, j_nar, s_aop, s_ret, s_retv, s_go, s_pop, x_linc, x_finc, Value.category, if_icmp.holds, List.flatMap_cons, List.flatMap_nil, List.length_cons, List.length_append, List.length_nil, List.set_cons_succ, List.set_cons_zero, List.getElem?_cons_succ, List.getElem?_cons_zero, List.replicate, ite_and', ite_or', ite_int', nI_leI, nI_ltI, nI_eq, nI_add, nI_1, pk_mul, nI_clamp, n_in', nI_pos', nI_pos, n_m1e, n_01, n_10, sT_1, sR_1_0, sR_1_1, sR_1_2, sR_1_3, sR_1_4, sR_1_5, sR_1_6, sR_1_7, sR_1_8, sR_1_9, sT_2, sT_3, sT_4, sT_5, sT_6, sT_7, sT_8, sT_9, sT_10, sT_11, sT_12, sT_13, sT_14, sR_2_1, sR_2_2, sR_2_3, sR_2_4, sR_2_5, sR_2_6, sR_2_7, sR_2_8, sR_2_9, sR_2_10, sR_2_11, sR_2_12, sT_15, sT_16, sT_17, sT_18, sT_19, sT_20, sT_21, sT_22, sT_23, sR_15_1, sR_15_2, sR_15_3, sR_15_4, sR_15_5, sR_15_6, sR_15_7, sR_15_8, sT_24, sT_25, sT_26, sT_27, sT_28, sT_29, sR_24_1, sR_24_2, sR_24_3, sR_24_4, sR_24_5, sT_71, sT_72, sR_71_0, sR_71_1, sR_71_2, sR_71_3, sR_71_4, sT_73, sT_74, sT_75, sR_73_0, sR_73_1, sR_73_2, sR_73_3, sR_73_4, sR_73_5, sT_84, sT_85, sT_86, sT_87, sR_84_0, sR_84_1, sR_84_2, sR_84_3, sR_84_4, sR_84_5, sT_88, sT_89, sR_88_0, sT_90, sT_91, sR_90_0, t77, ha, g1, g2, g3, hin, g, eb, h10])
    (fun a ha hp => by
      have g := hc a ha
      have eb := e_St_isBeyond hs w rk hfr' hi (hcl _ (getD_mem' (d := 0) ha)) u
      have hb : (if u then sBet A ((sAllR A).getD (σ i) 0) ((sAllR A).getD (σ (cv.getD a 0)) 0) else sBet A ((sAllR A).getD (σ (cv.getD a 0)) 0) ((sAllR A).getD (σ i) 0)) = Ru A (sAllR A) σ u i (cv.getD a 0) := rfl
      rw [hb, hp] at eb
      simp only [Bool.false_eq_true, if_false] at eb
      have hin : j_in (nI a) rl = true := n_in' (by omega) (by omega)
      clear rk hfr' hc hcl hb hp hany
      generalize cv.getD a 0 = V at *
      generalize cv.length = LL at *
      cases u <;> simp only [if_true, Bool.false_eq_true, if_false] at eb ⊢ <;> simp (disch := first | assumption | omega) [lstp, lc_St_isBeyondAny_1, lb_St_isBeyondAny_1, lu_St_isBeyondAny_1, j_meth, j_out, j_rok, j_pad, lg_sl, s_seq_w, isN_inl, isN_inr, s_if, jb, x_c, x_iloc, x_aloc, x_lloc, x_bin, x_un, o_add, o_sub, o_mul, o_and, o_or, o_xor, o_shl, o_shr, o_ushr, o_max, o_min, o_i2b, o_i2c, o_i2l, o_l2i, x_fld, j_fget, x_idx, j_aget, x_len, j_alen, x_ofb, x_ite, xs_nil, xs_cons, x_callv, x_calls, s_callv, s_calls, j_recv, j_ret, j_retv, b_cmp, b_and, b_or, b_not, b_ofi, b_ite, b_true, s_skip, s_set, j_ty, j_lset, j_kill, s_inc, s_fput, j_fput, s_fop, s_aput, j_aput, j_nar, s_aop, s_ret, s_retv, s_go, s_pop, x_linc, x_finc, Value.category, if_icmp.holds, List.flatMap_cons, List.flatMap_nil, List.length_cons, List.length_append, List.length_nil, List.set_cons_succ, List.set_cons_zero, List.getElem?_cons_succ, List.getElem?_cons_zero, List.replicate, ite_and', ite_or', ite_int', nI_leI, nI_ltI, nI_eq, nI_add, nI_1, pk_mul, nI_clamp, n_in', nI_pos', nI_pos, n_m1e, n_01, n_10, sT_1, sR_1_0, sR_1_1, sR_1_2, sR_1_3, sR_1_4, sR_1_5, sR_1_6, sR_1_7, sR_1_8, sR_1_9, sT_2, sT_3, sT_4, sT_5, sT_6, sT_7, sT_8, sT_9, sT_10, sT_11, sT_12, sT_13, sT_14, sR_2_1, sR_2_2, sR_2_3, sR_2_4, sR_2_5, sR_2_6, sR_2_7, sR_2_8, sR_2_9, sR_2_10, sR_2_11, sR_2_12, sT_15, sT_16, sT_17, sT_18, sT_19, sT_20, sT_21, sT_22, sT_23, sR_15_1, sR_15_2, sR_15_3, sR_15_4, sR_15_5, sR_15_6, sR_15_7, sR_15_8, sT_24, sT_25, sT_26, sT_27, sT_28, sT_29, sR_24_1, sR_24_2, sR_24_3, sR_24_4, sR_24_5, sT_71, sT_72, sR_71_0, sR_71_1, sR_71_2, sR_71_3, sR_71_4, sT_73, sT_74, sT_75, sR_73_0, sR_73_1, sR_73_2, sR_73_3, sR_73_4, sR_73_5, sT_84, sT_85, sT_86, sT_87, sR_84_0, sR_84_1, sR_84_2, sR_84_3, sR_84_4, sR_84_5, sT_88, sT_89, sR_88_0, sT_90, sT_91, sR_90_0, t77, ha, g1, g2, g3, hin, g, eb])
    (by
      clear rk hfr' hc hcl hany
      generalize cv.length = LL at *
      cases u <;> simp (disch := first | assumption | omega) [lstp, lc_St_isBeyondAny_1, lb_St_isBeyondAny_1, lu_St_isBeyondAny_1, j_meth, j_out, j_rok, j_pad, lg_sl, s_seq_w, isN_inl, isN_inr, s_if, jb, x_c, x_iloc, x_aloc, x_lloc, x_bin, x_un, o_add, o_sub, o_mul, o_and, o_or, o_xor, o_shl, o_shr, o_ushr, o_max, o_min, o_i2b, o_i2c, o_i2l, o_l2i, x_fld, j_fget, x_idx, j_aget, x_len, j_alen, x_ofb, x_ite, xs_nil, xs_cons, x_callv, x_calls, s_callv, s_calls, j_recv, j_ret, j_retv, b_cmp, b_and, b_or, b_not, b_ofi, b_ite, b_true, s_skip, s_set, j_ty, j_lset, j_kill, s_inc, s_fput, j_fput, s_fop, s_aput, j_aput, j_nar, s_aop, s_ret, s_retv, s_go, s_pop, x_linc, x_finc, Value.category, if_icmp.holds, List.flatMap_cons, List.flatMap_nil, List.length_cons, List.length_append, List.length_nil, List.set_cons_succ, List.set_cons_zero, List.getElem?_cons_succ, List.getElem?_cons_zero, List.replicate, ite_and', ite_or', ite_int', nI_leI, nI_ltI, nI_eq, nI_add, nI_1, pk_mul, nI_clamp, n_in', nI_pos', nI_pos, n_m1e, n_01, n_10, sT_1, sR_1_0, sR_1_1, sR_1_2, sR_1_3, sR_1_4, sR_1_5, sR_1_6, sR_1_7, sR_1_8, sR_1_9, sT_2, sT_3, sT_4, sT_5, sT_6, sT_7, sT_8, sT_9, sT_10, sT_11, sT_12, sT_13, sT_14, sR_2_1, sR_2_2, sR_2_3, sR_2_4, sR_2_5, sR_2_6, sR_2_7, sR_2_8, sR_2_9, sR_2_10, sR_2_11, sR_2_12, sT_15, sT_16, sT_17, sT_18, sT_19, sT_20, sT_21, sT_22, sT_23, sR_15_1, sR_15_2, sR_15_3, sR_15_4, sR_15_5, sR_15_6, sR_15_7, sR_15_8, sT_24, sT_25, sT_26, sT_27, sT_28, sT_29, sR_24_1, sR_24_2, sR_24_3, sR_24_4, sR_24_5, sT_71, sT_72, sR_71_0, sR_71_1, sR_71_2, sR_71_3, sR_71_4, sT_73, sT_74, sT_75, sR_73_0, sR_73_1, sR_73_2, sR_73_3, sR_73_4, sR_73_5, sT_84, sT_85, sT_86, sT_87, sR_84_0, sR_84_1, sR_84_2, sR_84_3, sR_84_4, sR_84_5, sT_88, sT_89, sR_88_0, sT_90, sT_91, sR_90_0])
  clear rk hfr' hc hcl hany
  cases hq : fst1 (fun a => Ru A (sAllR A) σ u i (cv.getD a 0)) cv.length with
  | none =>
    rw [hq] at hL
    simp only [nI_0] at hL
    simp only [Option.isSome_none, Bool.false_eq_true, if_false]
    generalize cv.length = LL at *
    cases u <;> simp only [if_true, Bool.false_eq_true, if_false] at hL ⊢ <;> simp (disch := first | assumption | omega) [f_St_isBeyondAny, body_St_isBeyondAny, j_meth, j_out, j_rok, j_pad, lg_sl, s_seq_w, isN_inl, isN_inr, s_if, jb, x_c, x_iloc, x_aloc, x_lloc, x_bin, x_un, o_add, o_sub, o_mul, o_and, o_or, o_xor, o_shl, o_shr, o_ushr, o_max, o_min, o_i2b, o_i2c, o_i2l, o_l2i, x_fld, j_fget, x_idx, j_aget, x_len, j_alen, x_ofb, x_ite, xs_nil, xs_cons, x_callv, x_calls, s_callv, s_calls, j_recv, j_ret, j_retv, b_cmp, b_and, b_or, b_not, b_ofi, b_ite, b_true, s_skip, s_set, j_ty, j_lset, j_kill, s_inc, s_fput, j_fput, s_fop, s_aput, j_aput, j_nar, s_aop, s_ret, s_retv, s_go, s_pop, x_linc, x_finc, Value.category, if_icmp.holds, List.flatMap_cons, List.flatMap_nil, List.length_cons, List.length_append, List.length_nil, List.set_cons_succ, List.set_cons_zero, List.getElem?_cons_succ, List.getElem?_cons_zero, List.replicate, ite_and', ite_or', ite_int', nI_leI, nI_ltI, nI_eq, nI_add, nI_1, pk_mul, nI_clamp, n_in', nI_pos', nI_pos, n_m1e, n_01, n_10, sT_1, sR_1_0, sR_1_1, sR_1_2, sR_1_3, sR_1_4, sR_1_5, sR_1_6, sR_1_7, sR_1_8, sR_1_9, sT_2, sT_3, sT_4, sT_5, sT_6, sT_7, sT_8, sT_9, sT_10, sT_11, sT_12, sT_13, sT_14, sR_2_1, sR_2_2, sR_2_3, sR_2_4, sR_2_5, sR_2_6, sR_2_7, sR_2_8, sR_2_9, sR_2_10, sR_2_11, sR_2_12, sT_15, sT_16, sT_17, sT_18, sT_19, sT_20, sT_21, sT_22, sT_23, sR_15_1, sR_15_2, sR_15_3, sR_15_4, sR_15_5, sR_15_6, sR_15_7, sR_15_8, sT_24, sT_25, sT_26, sT_27, sT_28, sT_29, sR_24_1, sR_24_2, sR_24_3, sR_24_4, sR_24_5, sT_71, sT_72, sR_71_0, sR_71_1, sR_71_2, sR_71_3, sR_71_4, sT_73, sT_74, sT_75, sR_73_0, sR_73_1, sR_73_2, sR_73_3, sR_73_4, sR_73_5, sT_84, sT_85, sT_86, sT_87, sR_84_0, sR_84_1, sR_84_2, sR_84_3, sR_84_4, sR_84_5, sT_88, sT_89, sR_88_0, sT_90, sT_91, sR_90_0, nI_0, hL]
  | some a =>
    rw [hq] at hL
    simp only [nI_0] at hL
    simp only [Option.isSome_some, if_true]
    have h11 : nI 1 = 1 := rfl
    generalize cv.length = LL at *
    cases u <;> simp only [if_true, Bool.false_eq_true, if_false] at hL ⊢ <;> simp (disch := first | assumption | omega) [f_St_isBeyondAny, body_St_isBeyondAny, j_meth, j_out, j_rok, j_pad, lg_sl, s_seq_w, isN_inl, isN_inr, s_if, jb, x_c, x_iloc, x_aloc, x_lloc, x_bin, x_un, o_add, o_sub, o_mul, o_and, o_or, o_xor, o_shl, o_shr, o_ushr, o_max, o_min, o_i2b, o_i2c, o_i2l, o_l2i, x_fld, j_fget, x_idx, j_aget, x_len, j_alen, x_ofb, x_ite, xs_nil, xs_cons, x_callv, x_calls, s_callv, s_calls, j_recv, j_ret, j_retv, b_cmp, b_and, b_or, b_not, b_ofi, b_ite, b_true, s_skip, s_set, j_ty, j_lset, j_kill, s_inc, s_fput, j_fput, s_fop, s_aput, j_aput, j_nar, s_aop, s_ret, s_retv, s_go, s_pop, x_linc, x_finc, Value.category, if_icmp.holds, List.flatMap_cons, List.flatMap_nil, List.length_cons, List.length_append, List.length_nil, List.set_cons_succ, List.set_cons_zero, List.getElem?_cons_succ, List.getElem?_cons_zero, List.replicate, ite_and', ite_or', ite_int', nI_leI, nI_ltI, nI_eq, nI_add, nI_1, pk_mul, nI_clamp, n_in', nI_pos', nI_pos, n_m1e, n_01, n_10, sT_1, sR_1_0, sR_1_1, sR_1_2, sR_1_3, sR_1_4, sR_1_5, sR_1_6, sR_1_7, sR_1_8, sR_1_9, sT_2, sT_3, sT_4, sT_5, sT_6, sT_7, sT_8, sT_9, sT_10, sT_11, sT_12, sT_13, sT_14, sR_2_1, sR_2_2, sR_2_3, sR_2_4, sR_2_5, sR_2_6, sR_2_7, sR_2_8, sR_2_9, sR_2_10, sR_2_11, sR_2_12, sT_15, sT_16, sT_17, sT_18, sT_19, sT_20, sT_21, sT_22, sT_23, sR_15_1, sR_15_2, sR_15_3, sR_15_4, sR_15_5, sR_15_6, sR_15_7, sR_15_8, sT_24, sT_25, sT_26, sT_27, sT_28, sT_29, sR_24_1, sR_24_2, sR_24_3, sR_24_4, sR_24_5, sT_71, sT_72, sR_71_0, sR_71_1, sR_71_2, sR_71_3, sR_71_4, sT_73, sT_74, sT_75, sR_73_0, sR_73_1, sR_73_2, sR_73_3, sR_73_4, sR_73_5, sT_84, sT_85, sT_86, sT_87, sR_84_0, sR_84_1, sR_84_2, sR_84_3, sR_84_4, sR_84_5, sT_88, sT_89, sR_88_0, sT_90, sT_91, sR_90_0, nI_0, hL, h11]
