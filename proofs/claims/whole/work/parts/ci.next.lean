/-! Standing: reachNext -/
noncomputable def rn_0 (L : Int64) : jSt := (s_set 2 8 (x_ite (b_ofi (x_iloc 2)) (x_bin o_lsub (x_bin o_lor (x_lloc 4) (x_c (.long L))) (x_idx 5 (x_fld 9 1 8 (x_aloc 0)) (x_iloc 7))) (x_bin o_lsub (x_bin o_lor (x_idx 5 (x_fld 9 1 8 (x_aloc 0)) (x_iloc 7)) (x_c (.long L))) (x_lloc 4))))
noncomputable def rn_c (L : Int64) : jB := (b_lcmp .eq (x_bin o_land (x_lloc 8) (x_c (.long L))) (x_c (.long L)))
noncomputable def rn_b : jB := (b_not (b_ofi (x_callv 9 f_St_isBeyondAny (xs_cons (x_aloc 0) (xs_cons (x_iloc 7) (xs_cons (x_iloc 6) (xs_cons (x_iloc 2) xs_nil)))))))
noncomputable def rn_1 : jSt := (s_aput 1 (x_fld 9 1 12 (x_aloc 0)) (x_iloc 6) (x_iloc 7))
noncomputable def rn_2 : jSt := (s_inc 6 (nI 1))
noncomputable def rn_3 : jSt := (s_callv 9 f_St_reach (xs_cons (x_aloc 0) (xs_cons (x_iloc 7) (xs_cons (x_bin o_add (x_idx 1 (x_fld 9 1 10 (x_aloc 0)) (x_iloc 1)) (x_c (.int (nI 1)))) xs_nil))))
theorem lb_rn : lb_St_reachNext_1 = s_seq (rn_0 17734058512) (s_if (b_and (rn_c 17734058512) rn_b) (s_seq rn_1 (s_seq rn_2 rn_3)) s_skip) := rfl
def rnV (L : Int64) (u : Bool) (own r : Int64) : Int64 := if u then (own ||| L) - r else (r ||| L) - own
theorem rn0_ok {h : jHp} (hs : Shape h) (L : Int64) {ra rl i : Nat} (k1 : hR h 77 8 = ra) (k0 : ra ≠ 0) (k2 : hT h ra = (5, rl)) (hi : i < rl) (hrl : rl < 2 ^ 30) (u : Bool) (x1 x3 x6 : Int32) (own : Int64) (v8 : Value) : rn_0 L ([.ref 77, .int x1, .int (if u then 1 else 0), .int x3, .long own, .null, .int x6, .int (nI i), v8, .null], h) = some (.inl 0, ([.ref 77, .int x1, .int (if u then 1 else 0), .int x3, .long own, .null, .int x6, .int (nI i), .long (rnV L u own (hJ h ra i)), .null], h)) := by
  have t77 := sT_77 hs
  have ni : j_in (nI i) rl = true := n_in' (by omega) (by omega)
  have ci : (nI i).toNatClampNeg = i := nI_clamp (by omega)
  have h10 : ((1 : Int32) = 0) = False := by decide
  unfold rnV
  generalize hJ1 : hJ h ra i = J at *
  cases u with
  | true =>
    simp only [if_true]
    simp (disch := first | assumption | omega) [rn_0, j_meth, j_out, j_rok, j_pad, lg_sl, s_seq_w, isN_inl, isN_inr, s_if, jb, x_c, x_iloc, x_aloc, x_lloc, x_bin, x_un, o_add, o_sub, o_mul, o_and, o_or, o_xor, o_shl, o_shr, o_ushr, o_max, o_min, o_i2b, o_i2c, o_i2l, o_l2i, x_fld, j_fget, x_idx, j_aget, x_len, j_alen, x_ofb, x_ite, xs_nil, xs_cons, x_callv, x_calls, s_callv, s_calls, j_recv, j_ret, j_retv, b_cmp, b_and, b_or, b_not, b_ofi, b_ite, b_true, s_skip, s_set, j_ty, j_lset, j_kill, s_inc, s_fput, j_fput, s_fop, s_aput, j_aput, j_nar, s_aop, s_ret, s_retv, s_go, s_pop, x_linc, x_finc, Value.category, if_icmp.holds, List.flatMap_cons, List.flatMap_nil, List.length_cons, List.length_append, List.length_nil, List.set_cons_succ, List.set_cons_zero, List.getElem?_cons_succ, List.getElem?_cons_zero, List.replicate, o_lsub, o_lor, h10, t77, k1, k0, k2, ni, ci, hJ1]
  | false =>
    simp only [Bool.false_eq_true, if_false]
    simp (disch := first | assumption | omega) [rn_0, j_meth, j_out, j_rok, j_pad, lg_sl, s_seq_w, isN_inl, isN_inr, s_if, jb, x_c, x_iloc, x_aloc, x_lloc, x_bin, x_un, o_add, o_sub, o_mul, o_and, o_or, o_xor, o_shl, o_shr, o_ushr, o_max, o_min, o_i2b, o_i2c, o_i2l, o_l2i, x_fld, j_fget, x_idx, j_aget, x_len, j_alen, x_ofb, x_ite, xs_nil, xs_cons, x_callv, x_calls, s_callv, s_calls, j_recv, j_ret, j_retv, b_cmp, b_and, b_or, b_not, b_ofi, b_ite, b_true, s_skip, s_set, j_ty, j_lset, j_kill, s_inc, s_fput, j_fput, s_fop, s_aput, j_aput, j_nar, s_aop, s_ret, s_retv, s_go, s_pop, x_linc, x_finc, Value.category, if_icmp.holds, List.flatMap_cons, List.flatMap_nil, List.length_cons, List.length_append, List.length_nil, List.set_cons_succ, List.set_cons_zero, List.getElem?_cons_succ, List.getElem?_cons_zero, List.replicate, o_lsub, o_lor, h10, t77, k1, k0, k2, ni, ci, hJ1]
theorem rnc_ok (L : Int64) (a b c d e f g k : Value) (V : Int64) (h : jHp) : rn_c L ([a, b, c, d, e, f, g, k, .long V, .null], h) = some (decide (V &&& L = L), ([a, b, c, d, e, f, g, k, .long V, .null], h)) := by
  rw [← lg_eq]
  simp only [rn_c, b_lcmp, x_lloc, x_c, jb, x_bin, o_land, List.getElem?_cons_succ, List.getElem?_cons_zero]
theorem lent_bet {A : AS} (w : WF A) {a b : Nat} (ha : FRk A a) (hb : FRk A b) (hne : rkN A a ≠ rkN A b) : decide ((Int64.ofNat (rkN A b) ||| 17734058512) - Int64.ofNat (rkN A a) &&& 17734058512 = 17734058512) = sBet A a b := by
  rw [Bool.eq_iff_iff, decide_eq_true_eq, ← beyond_long w ha hb]
  have l1 := rkN_lt w a
  have l2 := rkN_lt w b
  exact ⟨fun q => ⟨fun e => hne ((jJ_eq (by omega) (by omega)).mp e), q⟩, fun q => q.2⟩
theorem rnV_ok {A : AS} (w : WF A) {l : List Nat} {σ : Nat → Nat} (sok : SOK A l σ) (u : Bool) {i at' : Nat} (hi : i < l.length) (ha : at' < l.length) (hne : rkN A (l.getD (σ i) 0) ≠ rkN A (l.getD (σ at') 0)) : decide (rnV 17734058512 u (Int64.ofNat (rkN A (l.getD (σ at') 0))) (Int64.ofNat (rkN A (l.getD (σ i) 0))) &&& 17734058512 = 17734058512) = Ru A l σ u i at' := by
  have fi := sok.1 _ (sok.2.1 i hi)
  have fa := sok.1 _ (sok.2.1 at' ha)
  unfold Ru bb rnV
  cases u with
  | true =>
    simp only [if_true]
    exact lent_bet w fi fa hne
  | false =>
    simp only [Bool.false_eq_true, if_false]
    exact lent_bet w fa fi (Ne.symm hne)
-- the number on the way
def iv (u : Bool) (at' s : Nat) : Int32 := if u then (if s < at' then nI (at' - 1 - s) else -1) else nI (at' + 1 + s)
def wy (u : Bool) : Int32 := if u then -1 else nI 1
theorem nI_dec (n : Nat) : nI (n + 1) + (-1) = nI n := by
  have : nI (n + 1) = nI n + 1 := by rw [← nI_add]; rfl
  rw [this, Int32.add_assoc, show (1 : Int32) + -1 = 0 from by decide, Int32.add_zero]
theorem iv_0 (u : Bool) (at' : Nat) : nI at' + wy u = iv u at' 0 := by
  unfold iv wy
  cases u with
  | true =>
    simp only [if_true]
    cases at' with
    | zero => decide
    | succ n =>
      rw [if_pos (by omega), nI_dec]
      rfl
  | false =>
    simp only [Bool.false_eq_true, if_false]
    rw [nI_add]
theorem iv_s {u : Bool} {N at' s : Nat} (h : s < cnt u N at') : iv u at' s + wy u = iv u at' (s + 1) := by
  unfold cnt at h
  unfold iv wy
  cases u with
  | true =>
    simp only [if_true] at *
    rw [if_pos h]
    by_cases q : s + 1 < at'
    · rw [if_pos q, show at' - 1 - s = (at' - 1 - (s + 1)) + 1 by omega, nI_dec]
    · rw [if_neg q, show at' - 1 - s = 0 by omega]
      decide
  | false =>
    simp only [Bool.false_eq_true, if_false] at *
    rw [nI_add]
    rfl
theorem iv_ix {u : Bool} {N at' s : Nat} (h : s < cnt u N at') : iv u at' s = nI (ix u at' s) := by
  unfold cnt at h
  unfold iv ix
  cases u with
  | true =>
    simp only [if_true] at *
    rw [if_pos h]
  | false => simp only [Bool.false_eq_true, if_false] at *
theorem e_rn_1 {A : AS} {σ : Nat → Nat} {ra rl so di qu co : Nat} {h : jHp} (w : WF A) (b : BC A σ ra rl so di qu co h) (sok : SOK A (sAllR A) σ) {Q : List Nat} {f : Nat → Nat} (db : DB (sAllR A).length di qu Q f h) (nd : Q.Nodup) (hQ : ∀ j ∈ Q, j < (sAllR A).length) {d : Nat} (hd : d < 2 ^ 29) (hfb : ∀ j, f j < 2 ^ 30) {at' : Nat} (ha : at' < (sAllR A).length) (haQ : at' ∈ Q) (hfa : f at' = d) (hfd : ∀ j, j ∉ Q → f j = d + 1) (u : Bool) (own : Int64) (hown : own = Int64.ofNat (rkN A ((sAllR A).getD (σ at') 0))) :
    ∃ r, s_loop 1 2 lc_St_reachNext_1 lb_St_reachNext_1 lu_St_reachNext_1 ([.ref 77, .int (nI at'), .int (if u then 1 else 0), .int (wy u), .long own, .null, .int (nI 0), .int (iv u at' 0), .null, .null], h) = some r ∧ ∃ h' ns st, r = (.inl 0, (st, h')) ∧ Fr (Wbf di qu co) h h' ∧ DB (sAllR A).length di qu (Q ++ ns) f h' ∧ (Q ++ ns).Nodup ∧ (∀ j ∈ ns, j ∈ cov A (sAllR A) σ u at' (cnt u (sAllR A).length at')) ∧ ∀ j ∈ cov A (sAllR A) σ u at' (cnt u (sAllR A).length at'), j ∈ Q ∨ j ∈ ns := by
  have hlen := sAllR_len w
  refine loop_wp (lb := 1) (lc := 2) (c := lc_St_reachNext_1) (b := lb_St_reachNext_1) (u := lu_St_reachNext_1) (cnt u (sAllR A).length at')
    (fun s st => ∃ h' ns v8, st = ([.ref 77, .int (nI at'), .int (if u then 1 else 0), .int (wy u), .long own, .null, .int (nI (cov A (sAllR A) σ u at' s).length), .int (iv u at' s), v8, .null], h') ∧ Fr (Wbf di qu co) h h' ∧ DB (sAllR A).length di qu (Q ++ ns) f h' ∧ (Q ++ ns).Nodup ∧ (∀ a, a < (cov A (sAllR A) σ u at' s).length → hI h' co a = nI ((cov A (sAllR A) σ u at' s).getD a 0)) ∧ (∀ j ∈ ns, j ∈ cov A (sAllR A) σ u at' s) ∧ ∀ j ∈ cov A (sAllR A) σ u at' s, j ∈ Q ∨ j ∈ ns)
    (fun r => ∃ h' ns st, r = (.inl 0, (st, h')) ∧ Fr (Wbf di qu co) h h' ∧ DB (sAllR A).length di qu (Q ++ ns) f h' ∧ (Q ++ ns).Nodup ∧ (∀ j ∈ ns, j ∈ cov A (sAllR A) σ u at' (cnt u (sAllR A).length at')) ∧ ∀ j ∈ cov A (sAllR A) σ u at' (cnt u (sAllR A).length at'), j ∈ Q ∨ j ∈ ns)
    ?_ ?_ _ ⟨h, [], .null, rfl, Fr_refl _ _, by rw [List.append_nil]; exact db, by rw [List.append_nil]; exact nd, fun a ha => (by simp [cov] at ha), fun j hj => (by cases hj), fun j hj => (by simp [cov] at hj)⟩
  · rintro s st hs ⟨h1, ns, v8, rfl, f1, db1, nd1, c1, n1, n2⟩
    left
    have b1 := BC_fr b f1
    have hs1 := b1.1
    have rk := b1.2.1
    obtain ⟨hil, hia⟩ := ix_lt ha hs
    have hcl : ∀ c ∈ cov A (sAllR A) σ u at' s, c < (sAllR A).length := fun c hc => by
      obtain ⟨t, t1, t2, -⟩ := (cov_mem s).mp hc
      rw [← t2]
      exact (ix_lt ha (by omega)).1
    have hclen := cov_len (A := A) (l := sAllR A) (σ := σ) (u := u) (at' := at') s
    have hcn : cnt u (sAllR A).length at' ≤ (sAllR A).length := by unfold cnt; split <;> omega
    have hrl := rk.2.2.2.2.1
    have hNr := rk.2.2.2.1
    have hne : rkN A ((sAllR A).getD (σ (ix u at' s)) 0) ≠ rkN A ((sAllR A).getD (σ at') 0) := fun e => by
      have z1 := sok.2.1 _ hil
      have z2 := sok.2.1 _ ha
      obtain ⟨p1, p2⟩ := KF_mem w z1
      obtain ⟨p3, p4⟩ := KF_mem w z2
      have e' := rk_inj w p1 p3 p2 p4 (sok.1 _ z1) (sok.1 _ z2) e
      have e2 : σ (ix u at' s) = σ at' := by
        have nd := sAllR_nd w
        rw [List.getD_eq_getElem?_getD, List.getD_eq_getElem?_getD, List.getElem?_eq_getElem z1, List.getElem?_eq_getElem z2] at e'
        exact (List.getElem_inj nd).mp e'
      exact hia (sok.2.2.1 _ _ hil ha e2)
    have e0 := rn0_ok hs1 17734058512 rk.1 rk.2.1 rk.2.2.1 (i := ix u at' s) (by omega) hrl u (nI at') (wy u) (nI (cov A (sAllR A) σ u at' s).length) own v8
    rw [rk.2.2.2.2.2 _ hil, hown] at e0
    have hrv := rnV_ok w sok u hil ha hne
    have eb := e_St_isBeyondAny w b1 sok c1 hcl (by omega) hil u
    have hac := acc_cov w sok ha hs
    have hiv := iv_ix hs
    have hivs := iv_s hs
    rw [hiv] at hivs
    have t77 := sT_77 hs1
    have k7 := b1.2.2.2.2.2.2.1
    rw [hown, hiv]
    generalize rnV 17734058512 u (Int64.ofNat (rkN A ((sAllR A).getD (σ at') 0))) (Int64.ofNat (rkN A ((sAllR A).getD (σ (ix u at' s)) 0))) = V at *
    have ec := rnc_ok 17734058512 (.ref 77) (.int (nI at')) (.int (if u then 1 else 0)) (.int (wy u)) (.long (Int64.ofNat (rkN A ((sAllR A).getD (σ at') 0)))) .null (.int (nI (cov A (sAllR A) σ u at' s).length)) (.int (nI (ix u at' s))) V h1
    rw [hrv] at ec
    generalize Int64.ofNat (rkN A ((sAllR A).getD (σ at') 0)) = own' at *
    clear hown hrv
    have ec' := ec
    generalize hrn0 : rn_0 17734058512 = r0 at e0
    generalize hrnc : rn_c 17734058512 = rc at ec
    have h10 : ((1 : Int32) = 0) = False := by decide
    have ebb : rn_b ([.ref 77, .int (nI at'), .int (if u then 1 else 0), .int (wy u), .long own', .null, .int (nI (cov A (sAllR A) σ u at' s).length), .int (nI (ix u at' s)), .long V, .null], h1) = some (!((cov A (sAllR A) σ u at' s).any fun c => Ru A (sAllR A) σ u (ix u at' s) c), ([.ref 77, .int (nI at'), .int (if u then 1 else 0), .int (wy u), .long own', .null, .int (nI (cov A (sAllR A) σ u at' s).length), .int (nI (ix u at' s)), .long V, .null], h1)) := by
      clear hac
      generalize ((cov A (sAllR A) σ u at' s).any fun c => Ru A (sAllR A) σ u (ix u at' s) c) = B at *
      clear c1 n1 n2 hcl hclen
      generalize (cov A (sAllR A) σ u at' s).length = M at *
      generalize (if u = true then (1 : Int32) else 0) = U at *
      cases B <;> simp only [Bool.false_eq_true, if_false, if_true] at eb <;> simp (disch := first | assumption | omega) [rn_b, j_meth, j_out, j_rok, j_pad, lg_sl, s_seq_w, isN_inl, isN_inr, s_if, jb, x_c, x_iloc, x_aloc, x_lloc, x_bin, x_un, o_add, o_sub, o_mul, o_and, o_or, o_xor, o_shl, o_shr, o_ushr, o_max, o_min, o_i2b, o_i2c, o_i2l, o_l2i, x_fld, j_fget, x_idx, j_aget, x_len, j_alen, x_ofb, x_ite, xs_nil, xs_cons, x_callv, x_calls, s_callv, s_calls, j_recv, j_ret, j_retv, b_cmp, b_and, b_or, b_not, b_ofi, b_ite, b_true, s_skip, s_set, j_ty, j_lset, j_kill, s_inc, s_fput, j_fput, s_fop, s_aput, j_aput, j_nar, s_aop, s_ret, s_retv, s_go, s_pop, x_linc, x_finc, Value.category, if_icmp.holds, List.flatMap_cons, List.flatMap_nil, List.length_cons, List.length_append, List.length_nil, List.set_cons_succ, List.set_cons_zero, List.getElem?_cons_succ, List.getElem?_cons_zero, List.replicate, t77, eb, h10]
    have hQns : ∀ j ∈ Q ++ ns, j < (sAllR A).length := fun j hj => by
      rcases List.mem_append.mp hj with q | q
      · exact hQ j q
      · exact hcl j (n1 j q)
    have hix30 : ix u at' s < 2 ^ 30 := by omega
    have hLN : (sAllR A).length < 2 ^ 30 := by omega
    cases hA : acc A (sAllR A) σ u at' (ix u at' s) with
    | false =>
      rw [hA] at hac
      have hcov : cov A (sAllR A) σ u at' (s + 1) = cov A (sAllR A) σ u at' s := by
        rw [cov_s, hA]
        simp
      rw [hcov]
      refine ⟨([.ref 77, .int (nI at'), .int (if u then 1 else 0), .int (wy u), .long own', .null, .int (nI (cov A (sAllR A) σ u at' s).length), .int (iv u at' (s + 1)), .long V, .null], h1), ?_, h1, ns, .long V, rfl, f1, db1, nd1, c1, n1, n2⟩
      clear c1 n1 n2 hcl hclen eb hcov hA hQns
      generalize ((cov A (sAllR A) σ u at' s).any fun c => Ru A (sAllR A) σ u (ix u at' s) c) = B at *
      generalize Ru A (sAllR A) σ u (ix u at' s) at' = RI at *
      generalize (cov A (sAllR A) σ u at' s).length = M at *
      generalize (if u = true then (1 : Int32) else 0) = U at *
      generalize iv u at' (s + 1) = IV at *
      generalize wy u = WY at *
      clear hiv hia hne hs db1 nd1 b1 rk f1
      generalize ix u at' s = I at *
      generalize (sAllR A).length = LL at *
      cases RI with
      | false => simp (disch := first | assumption | omega) [lstp, lc_St_reachNext_1, lb_rn, lu_St_reachNext_1, j_meth, j_out, j_rok, j_pad, lg_sl, s_seq_w, isN_inl, isN_inr, s_if, jb, x_c, x_iloc, x_aloc, x_lloc, x_bin, x_un, o_add, o_sub, o_mul, o_and, o_or, o_xor, o_shl, o_shr, o_ushr, o_max, o_min, o_i2b, o_i2c, o_i2l, o_l2i, x_fld, j_fget, x_idx, j_aget, x_len, j_alen, x_ofb, x_ite, xs_nil, xs_cons, x_callv, x_calls, s_callv, s_calls, j_recv, j_ret, j_retv, b_cmp, b_and, b_or, b_not, b_ofi, b_ite, b_true, s_skip, s_set, j_ty, j_lset, j_kill, s_inc, s_fput, j_fput, s_fop, s_aput, j_aput, j_nar, s_aop, s_ret, s_retv, s_go, s_pop, x_linc, x_finc, Value.category, if_icmp.holds, List.flatMap_cons, List.flatMap_nil, List.length_cons, List.length_append, List.length_nil, List.set_cons_succ, List.set_cons_zero, List.getElem?_cons_succ, List.getElem?_cons_zero, List.replicate, ite_and', ite_or', ite_int', nI_leI, nI_ltI, nI_eq, nI_add, nI_1, pk_mul, nI_clamp, n_in', nI_pos', nI_pos, n_m1e, n_01, n_10, t77, k7, hil, hrn0, hrnc, e0, ec, hivs]
      | true =>
        have hB : B = true := by simpa using hac.symm
        subst hB
        simp (disch := first | assumption | omega) [lstp, lc_St_reachNext_1, lb_rn, lu_St_reachNext_1, j_meth, j_out, j_rok, j_pad, lg_sl, s_seq_w, isN_inl, isN_inr, s_if, jb, x_c, x_iloc, x_aloc, x_lloc, x_bin, x_un, o_add, o_sub, o_mul, o_and, o_or, o_xor, o_shl, o_shr, o_ushr, o_max, o_min, o_i2b, o_i2c, o_i2l, o_l2i, x_fld, j_fget, x_idx, j_aget, x_len, j_alen, x_ofb, x_ite, xs_nil, xs_cons, x_callv, x_calls, s_callv, s_calls, j_recv, j_ret, j_retv, b_cmp, b_and, b_or, b_not, b_ofi, b_ite, b_true, s_skip, s_set, j_ty, j_lset, j_kill, s_inc, s_fput, j_fput, s_fop, s_aput, j_aput, j_nar, s_aop, s_ret, s_retv, s_go, s_pop, x_linc, x_finc, Value.category, if_icmp.holds, List.flatMap_cons, List.flatMap_nil, List.length_cons, List.length_append, List.length_nil, List.set_cons_succ, List.set_cons_zero, List.getElem?_cons_succ, List.getElem?_cons_zero, List.replicate, ite_and', ite_or', ite_int', nI_leI, nI_ltI, nI_eq, nI_add, nI_1, pk_mul, nI_clamp, n_in', nI_pos', nI_pos, n_m1e, n_01, n_10, t77, k7, hil, hrn0, hrnc, e0, ec, ebb, hivs]
    | true =>
      rw [hA] at hac
      have hcov : cov A (sAllR A) σ u at' (s + 1) = cov A (sAllR A) σ u at' s ++ [ix u at' s] := by
        rw [cov_s, hA]
        simp
      rw [hcov]
      have n := b1.2.2.2.2.2.2.2.2
      have ndc : di ≠ co := n.2.1.2.1
      have nqc : qu ≠ co := n.2.1.2.2
      have nc7 : co ≠ 77 := n.2.2.2.2.2
      obtain ⟨co1, co2, co3⟩ := b1.2.2.2.2.2.1
      generalize hh2 : hSetI h1 co (cov A (sAllR A) σ u at' s).length (nI (ix u at' s)) = h2
      have f2 : Fr (Wbf di qu co) h1 h2 := by rw [← hh2]; exact Fr_set _ (Or.inr (Or.inr (Or.inl rfl)))
      have I2 : ∀ a k, hI h2 a k = if a = co ∧ k = (cov A (sAllR A) σ u at' s).length then nI (ix u at' s) else hI h1 a k := fun a k => by rw [← hh2, hI_setI]
      have b2 := BC_fr b1 f2
      have db2 : DB (sAllR A).length di qu (Q ++ ns) f h2 := ⟨fun i hi => by rw [I2, if_neg (fun q => ndc q.1)]; exact db1.1 i hi, fun a ha => by rw [I2, if_neg (fun q => nqc q.1)]; exact db1.2.1 a ha, by rw [I2, if_neg (fun q => nc7 q.1.symm)]; exact db1.2.2⟩
      obtain ⟨h3, e3, f3, db3⟩ := e_St_reach b2 db2 hil (d := d + 1) (by omega) nd1 hQns (fun j _ => hfb j) (fun q => hfd _ fun z => q (List.mem_append.mpr (Or.inl z)))
      have hs2 := b2.1
      have hs3 := Fr_shape hs2 f3
      have gat : hI h2 di at' = nI d := by rw [db2.1 at' ha, if_pos (List.mem_append.mpr (Or.inl haQ)), hfa]
      have hap : (if ix u at' s ∈ Q ++ ns then Q ++ ns else Q ++ ns ++ [ix u at' s]) = Q ++ (if ix u at' s ∈ Q ++ ns then ns else ns ++ [ix u at' s]) := by
        split
        · rfl
        · rw [List.append_assoc]
      rw [hap] at db3
      refine ⟨([.ref 77, .int (nI at'), .int (if u then 1 else 0), .int (wy u), .long own', .null, .int (nI (cov A (sAllR A) σ u at' s ++ [ix u at' s]).length), .int (iv u at' (s + 1)), .long V, .null], h3), ?_, h3, _, .long V, rfl, Fr_trans f1 (Fr_trans f2 (Fr_mono f3 fun a j q => Wrc_bf q)), db3, ?_, fun a ha => ?_, fun j hj => ?_, fun j hj => ?_⟩
      · have hM1 : (cov A (sAllR A) σ u at' s ++ [ix u at' s]).length = (cov A (sAllR A) σ u at' s).length + 1 := by simp
        rw [hM1]
        obtain ⟨d1, d2, d3⟩ := b2.2.2.2.1
        have hinc : j_in (nI (cov A (sAllR A) σ u at' s).length) rl = true := n_in' (by omega) (by omega)
        have hina : j_in (nI at') rl = true := n_in' (by omega) (by omega)
        have t2 := sT_77 hs2
        have hcM : (nI (cov A (sAllR A) σ u at' s).length).toNatClampNeg = (cov A (sAllR A) σ u at' s).length := nI_clamp (by omega)
        clear c1 n1 n2 hcl hclen eb hcov hA hQns I2 hap db3 f3 f2 db2 hM1
        generalize ((cov A (sAllR A) σ u at' s).any fun c => Ru A (sAllR A) σ u (ix u at' s) c) = B at *
        generalize Ru A (sAllR A) σ u (ix u at' s) at' = RI at *
        generalize (cov A (sAllR A) σ u at' s).length = M at *
        generalize (if u = true then (1 : Int32) else 0) = U at *
        generalize iv u at' (s + 1) = IV at *
        generalize wy u = WY at *
        have hci : (nI (ix u at' s)).toNatClampNeg = ix u at' s := nI_clamp (by omega)
        clear hiv hia hne hs db1 nd1 b1 rk f1 b2
        generalize ix u at' s = I at *
        generalize (sAllR A).length = LL at *
        have hRB : RI = true ∧ B = false := by
          have := hac.symm
          simpa using this
        obtain ⟨rfl, rfl⟩ := hRB
        have a1 : rn_1 ([.ref 77, .int (nI at'), .int U, .int WY, .long own', .null, .int (nI M), .int (nI I), .long V, .null], h1) = some (.inl 0, ([.ref 77, .int (nI at'), .int U, .int WY, .long own', .null, .int (nI M), .int (nI I), .long V, .null], h2)) := by
          simp (disch := first | assumption | omega) [rn_1, j_meth, j_out, j_rok, j_pad, lg_sl, s_seq_w, isN_inl, isN_inr, s_if, jb, x_c, x_iloc, x_aloc, x_lloc, x_bin, x_un, o_add, o_sub, o_mul, o_and, o_or, o_xor, o_shl, o_shr, o_ushr, o_max, o_min, o_i2b, o_i2c, o_i2l, o_l2i, x_fld, j_fget, x_idx, j_aget, x_len, j_alen, x_ofb, x_ite, xs_nil, xs_cons, x_callv, x_calls, s_callv, s_calls, j_recv, j_ret, j_retv, b_cmp, b_and, b_or, b_not, b_ofi, b_ite, b_true, s_skip, s_set, j_ty, j_lset, j_kill, s_inc, s_fput, j_fput, s_fop, s_aput, j_aput, j_nar, s_aop, s_ret, s_retv, s_go, s_pop, x_linc, x_finc, Value.category, if_icmp.holds, List.flatMap_cons, List.flatMap_nil, List.length_cons, List.length_append, List.length_nil, List.set_cons_succ, List.set_cons_zero, List.getElem?_cons_succ, List.getElem?_cons_zero, List.replicate, ite_and', ite_or', ite_int', nI_leI, nI_ltI, nI_eq, nI_add, nI_1, pk_mul, nI_clamp, n_in', nI_pos', nI_pos, n_m1e, n_01, n_10, t77, co1, co2, co3, hinc, hcM, hh2]
        have a2 : rn_2 ([.ref 77, .int (nI at'), .int U, .int WY, .long own', .null, .int (nI M), .int (nI I), .long V, .null], h2) = some (.inl 0, ([.ref 77, .int (nI at'), .int U, .int WY, .long own', .null, .int (nI (M + 1)), .int (nI I), .long V, .null], h2)) := by
          simp (disch := first | assumption | omega) [rn_2, j_meth, j_out, j_rok, j_pad, lg_sl, s_seq_w, isN_inl, isN_inr, s_if, jb, x_c, x_iloc, x_aloc, x_lloc, x_bin, x_un, o_add, o_sub, o_mul, o_and, o_or, o_xor, o_shl, o_shr, o_ushr, o_max, o_min, o_i2b, o_i2c, o_i2l, o_l2i, x_fld, j_fget, x_idx, j_aget, x_len, j_alen, x_ofb, x_ite, xs_nil, xs_cons, x_callv, x_calls, s_callv, s_calls, j_recv, j_ret, j_retv, b_cmp, b_and, b_or, b_not, b_ofi, b_ite, b_true, s_skip, s_set, j_ty, j_lset, j_kill, s_inc, s_fput, j_fput, s_fop, s_aput, j_aput, j_nar, s_aop, s_ret, s_retv, s_go, s_pop, x_linc, x_finc, Value.category, if_icmp.holds, List.flatMap_cons, List.flatMap_nil, List.length_cons, List.length_append, List.length_nil, List.set_cons_succ, List.set_cons_zero, List.getElem?_cons_succ, List.getElem?_cons_zero, List.replicate, ite_and', ite_or', ite_int', nI_leI, nI_ltI, nI_eq, nI_add, nI_1, pk_mul, nI_clamp, n_in', nI_pos', nI_pos, n_m1e, n_01, n_10]
        have a3 : rn_3 ([.ref 77, .int (nI at'), .int U, .int WY, .long own', .null, .int (nI (M + 1)), .int (nI I), .long V, .null], h2) = some (.inl 0, ([.ref 77, .int (nI at'), .int U, .int WY, .long own', .null, .int (nI (M + 1)), .int (nI I), .long V, .null], h3)) := by
          simp (disch := first | assumption | omega) [rn_3, j_meth, j_out, j_rok, j_pad, lg_sl, s_seq_w, isN_inl, isN_inr, s_if, jb, x_c, x_iloc, x_aloc, x_lloc, x_bin, x_un, o_add, o_sub, o_mul, o_and, o_or, o_xor, o_shl, o_shr, o_ushr, o_max, o_min, o_i2b, o_i2c, o_i2l, o_l2i, x_fld, j_fget, x_idx, j_aget, x_len, j_alen, x_ofb, x_ite, xs_nil, xs_cons, x_callv, x_calls, s_callv, s_calls, j_recv, j_ret, j_retv, b_cmp, b_and, b_or, b_not, b_ofi, b_ite, b_true, s_skip, s_set, j_ty, j_lset, j_kill, s_inc, s_fput, j_fput, s_fop, s_aput, j_aput, j_nar, s_aop, s_ret, s_retv, s_go, s_pop, x_linc, x_finc, Value.category, if_icmp.holds, List.flatMap_cons, List.flatMap_nil, List.length_cons, List.length_append, List.length_nil, List.set_cons_succ, List.set_cons_zero, List.getElem?_cons_succ, List.getElem?_cons_zero, List.replicate, ite_and', ite_or', ite_int', nI_leI, nI_ltI, nI_eq, nI_add, nI_1, pk_mul, nI_clamp, n_in', nI_pos', nI_pos, n_m1e, n_01, n_10, t2, d1, d2, d3, hina, gat, e3]
        simp (disch := first | assumption | omega) [lstp, lc_St_reachNext_1, lb_rn, lu_St_reachNext_1, j_meth, j_out, j_rok, j_pad, lg_sl, s_seq_w, isN_inl, isN_inr, s_if, jb, x_c, x_iloc, x_aloc, x_lloc, x_bin, x_un, o_add, o_sub, o_mul, o_and, o_or, o_xor, o_shl, o_shr, o_ushr, o_max, o_min, o_i2b, o_i2c, o_i2l, o_l2i, x_fld, j_fget, x_idx, j_aget, x_len, j_alen, x_ofb, x_ite, xs_nil, xs_cons, x_callv, x_calls, s_callv, s_calls, j_recv, j_ret, j_retv, b_cmp, b_and, b_or, b_not, b_ofi, b_ite, b_true, s_skip, s_set, j_ty, j_lset, j_kill, s_inc, s_fput, j_fput, s_fop, s_aput, j_aput, j_nar, s_aop, s_ret, s_retv, s_go, s_pop, x_linc, x_finc, Value.category, if_icmp.holds, List.flatMap_cons, List.flatMap_nil, List.length_cons, List.length_append, List.length_nil, List.set_cons_succ, List.set_cons_zero, List.getElem?_cons_succ, List.getElem?_cons_zero, List.replicate, ite_and', ite_or', ite_int', nI_leI, nI_ltI, nI_eq, nI_add, nI_1, pk_mul, nI_clamp, n_in', nI_pos', nI_pos, n_m1e, n_01, n_10, t77, k7, hil, hrn0, hrnc, e0, ec, ebb, a1, a2, a3, hivs]
      · by_cases q : ix u at' s ∈ Q ++ ns
        · rw [if_pos q]; exact nd1
        · rw [if_neg q, ← List.append_assoc, List.nodup_append]
          refine ⟨nd1, by simp, fun a ha b hb e => ?_⟩
          simp only [List.mem_singleton] at hb
          rw [e, hb] at ha
          exact q ha
      · have hco3 : hI h3 co a = hI h2 co a := Fr_I f3 fun q => by
          rcases q with z | z | ⟨z, -⟩
          · exact ndc z.symm
          · exact nqc z.symm
          · exact nc7 z
        rw [hco3, I2]
        rw [List.length_append] at ha
        simp only [List.length_cons, List.length_nil] at ha
        by_cases e : a = (cov A (sAllR A) σ u at' s).length
        · rw [if_pos ⟨rfl, e⟩, e]
          simp
        · rw [if_neg (fun q => e q.2), c1 a (by omega)]
          rw [List.getD_eq_getElem?_getD, List.getD_eq_getElem?_getD, List.getElem?_append_left (by omega)]
      · rw [List.mem_append]
        by_cases q : ix u at' s ∈ Q ++ ns
        · rw [if_pos q] at hj; exact Or.inl (n1 j hj)
        · rw [if_neg q] at hj
          rcases List.mem_append.mp hj with z | z
          · exact Or.inl (n1 j z)
          · exact Or.inr z
      · rcases List.mem_append.mp hj with z | z
        · rcases n2 j z with y | y
          · exact Or.inl y
          · right
            by_cases q : ix u at' s ∈ Q ++ ns
            · rw [if_pos q]; exact y
            · rw [if_neg q]; exact List.mem_append.mpr (Or.inl y)
        · simp only [List.mem_singleton] at z
          rw [z]
          by_cases q : ix u at' s ∈ Q ++ ns
          · rw [if_pos q]; exact List.mem_append.mp q
          · rw [if_neg q]; exact Or.inr (List.mem_append.mpr (Or.inr (by simp)))
  · rintro st ⟨h1, ns, v8, rfl, f1, db1, nd1, c1, n1, n2⟩
    refine ⟨(.inl 0, ([.ref 77, .int (nI at'), .int (if u then 1 else 0), .int (wy u), .long own, .null, .int (nI (cov A (sAllR A) σ u at' (cnt u (sAllR A).length at')).length), .int (iv u at' (cnt u (sAllR A).length at')), v8, .null], h1)), ?_, h1, ns, _, rfl, f1, db1, nd1, n1, n2⟩
    have b1 := BC_fr b f1
    have hs1 := b1.1
    have t77 := sT_77 hs1
    have k7 := b1.2.2.2.2.2.2.1
    clear c1 n1 n2 db1 nd1
    generalize (cov A (sAllR A) σ u at' (cnt u (sAllR A).length at')).length = M at *
    have hout : iv u at' (cnt u (sAllR A).length at') = -1 ∨ iv u at' (cnt u (sAllR A).length at') = nI (sAllR A).length := by
      unfold iv cnt
      cases u with
      | true => simp
      | false =>
        right
        simp only [Bool.false_eq_true, if_false]
        congr 1
        omega
    have hge : ¬ (0 : Int32) ≤ -1 := by decide
    have hLN : (sAllR A).length < 2 ^ 30 := by omega
    generalize iv u at' (cnt u (sAllR A).length at') = IV at *
    generalize wy u = WY at *
    generalize (if u = true then (1 : Int32) else 0) = U at *
    clear b1 f1 b sok db hQ hfd hown
    generalize (sAllR A).length = LL at *
    rcases hout with e | e
    · subst e
      simp (disch := first | assumption | omega) [lstp, lc_St_reachNext_1, j_meth, j_out, j_rok, j_pad, lg_sl, s_seq_w, isN_inl, isN_inr, s_if, jb, x_c, x_iloc, x_aloc, x_lloc, x_bin, x_un, o_add, o_sub, o_mul, o_and, o_or, o_xor, o_shl, o_shr, o_ushr, o_max, o_min, o_i2b, o_i2c, o_i2l, o_l2i, x_fld, j_fget, x_idx, j_aget, x_len, j_alen, x_ofb, x_ite, xs_nil, xs_cons, x_callv, x_calls, s_callv, s_calls, j_recv, j_ret, j_retv, b_cmp, b_and, b_or, b_not, b_ofi, b_ite, b_true, s_skip, s_set, j_ty, j_lset, j_kill, s_inc, s_fput, j_fput, s_fop, s_aput, j_aput, j_nar, s_aop, s_ret, s_retv, s_go, s_pop, x_linc, x_finc, Value.category, if_icmp.holds, List.flatMap_cons, List.flatMap_nil, List.length_cons, List.length_append, List.length_nil, List.set_cons_succ, List.set_cons_zero, List.getElem?_cons_succ, List.getElem?_cons_zero, List.replicate, ite_and', ite_or', ite_int', nI_leI, nI_ltI, nI_eq, nI_add, nI_1, pk_mul, nI_clamp, n_in', nI_pos', nI_pos, n_m1e, n_01, n_10, hge]
    · subst e
      simp (disch := first | assumption | omega) [lstp, lc_St_reachNext_1, j_meth, j_out, j_rok, j_pad, lg_sl, s_seq_w, isN_inl, isN_inr, s_if, jb, x_c, x_iloc, x_aloc, x_lloc, x_bin, x_un, o_add, o_sub, o_mul, o_and, o_or, o_xor, o_shl, o_shr, o_ushr, o_max, o_min, o_i2b, o_i2c, o_i2l, o_l2i, x_fld, j_fget, x_idx, j_aget, x_len, j_alen, x_ofb, x_ite, xs_nil, xs_cons, x_callv, x_calls, s_callv, s_calls, j_recv, j_ret, j_retv, b_cmp, b_and, b_or, b_not, b_ofi, b_ite, b_true, s_skip, s_set, j_ty, j_lset, j_kill, s_inc, s_fput, j_fput, s_fop, s_aput, j_aput, j_nar, s_aop, s_ret, s_retv, s_go, s_pop, x_linc, x_finc, Value.category, if_icmp.holds, List.flatMap_cons, List.flatMap_nil, List.length_cons, List.length_append, List.length_nil, List.set_cons_succ, List.set_cons_zero, List.getElem?_cons_succ, List.getElem?_cons_zero, List.replicate, ite_and', ite_or', ite_int', nI_leI, nI_ltI, nI_eq, nI_add, nI_1, pk_mul, nI_clamp, n_in', nI_pos', nI_pos, n_m1e, n_01, n_10, t77, k7]
noncomputable def rx_0 : jSt := (s_set 0 3 (x_ite (b_ofi (x_iloc 2)) (x_c (.int (-1))) (x_c (.int (nI 1)))))
noncomputable def rx_1 : jSt := (s_set 2 4 (x_idx 5 (x_fld 9 1 8 (x_aloc 0)) (x_iloc 1)))
noncomputable def rx_2 : jSt := (s_set 0 6 (x_c (.int (nI 0))))
noncomputable def rx_3 : jSt := (s_seq (s_set 0 7 (x_bin o_add (x_iloc 1) (x_iloc 3))) (s_loop 1 2 (lc_St_reachNext_1) (lb_St_reachNext_1) (lu_St_reachNext_1)))
theorem St_reachNext_s : f_St_reachNext = j_meth 0 10 (s_seq rx_0 (s_seq rx_1 (s_seq rx_2 (s_seq rx_3 s_retv)))) := rfl
theorem e_St_reachNext {A : AS} {σ : Nat → Nat} {ra rl so di qu co : Nat} {h : jHp} (w : WF A) (b : BC A σ ra rl so di qu co h) (sok : SOK A (sAllR A) σ) {Q : List Nat} {f : Nat → Nat} (db : DB (sAllR A).length di qu Q f h) (nd : Q.Nodup) (hQ : ∀ j ∈ Q, j < (sAllR A).length) {d : Nat} (hd : d < 2 ^ 29) (hfb : ∀ j, f j < 2 ^ 30) {at' : Nat} (ha : at' < (sAllR A).length) (haQ : at' ∈ Q) (hfa : f at' = d) (hfd : ∀ j, j ∉ Q → f j = d + 1) (u : Bool) :
    ∃ h' ns, f_St_reachNext [.ref 77, .int (nI at'), .int (if u then 1 else 0)] h = some (none, h') ∧ Fr (Wbf di qu co) h h' ∧ DB (sAllR A).length di qu (Q ++ ns) f h' ∧ (Q ++ ns).Nodup ∧ (∀ j ∈ ns, j < (sAllR A).length ∧ acc A (sAllR A) σ u at' j = true) ∧ ∀ j, j < (sAllR A).length → acc A (sAllR A) σ u at' j = true → j ∈ Q ∨ j ∈ ns := by
  have hs := b.1
  have rk := b.2.1
  have hrl := rk.2.2.2.2.1
  have hNr := rk.2.2.2.1
  have k1 := rk.1
  have k0 := rk.2.1
  have k2 := rk.2.2.1
  have gj := rk.2.2.2.2.2 at' ha
  obtain ⟨r, e1, h1, ns, st, rfl, f1, db1, nd1, n1, n2⟩ := e_rn_1 w b sok db nd hQ hd hfb ha haQ hfa hfd u _ rfl
  refine ⟨h1, ns, ?_, f1, db1, nd1, fun j hj => ?_, fun j hj hacc => ?_⟩
  · have t77 := sT_77 hs
    have hin : j_in (nI at') rl = true := n_in' (by omega) (by omega)
    have hci : (nI at').toNatClampNeg = at' := nI_clamp (by omega)
    have hiv := iv_0 u at'
    have h10 : ((1 : Int32) = 0) = False := by decide
    rw [St_reachNext_s]
    clear db db1 n1 n2 nd1 f1 b rk sok hfd hfb hQ
    generalize Int64.ofNat (rkN A ((sAllR A).getD (σ at') 0)) = J at *
    generalize iv u at' 0 = IV at *
    have a0 : rx_0 ([.ref 77, .int (nI at'), .int (if u then 1 else 0), .null, .null, .null, .null, .null, .null, .null], h) = some (.inl 0, ([.ref 77, .int (nI at'), .int (if u then 1 else 0), .int (wy u), .null, .null, .null, .null, .null, .null], h)) := by
      unfold wy
      cases u <;> simp (disch := first | assumption | omega) [rx_0, j_meth, j_out, j_rok, j_pad, lg_sl, s_seq_w, isN_inl, isN_inr, s_if, jb, x_c, x_iloc, x_aloc, x_lloc, x_bin, x_un, o_add, o_sub, o_mul, o_and, o_or, o_xor, o_shl, o_shr, o_ushr, o_max, o_min, o_i2b, o_i2c, o_i2l, o_l2i, x_fld, j_fget, x_idx, j_aget, x_len, j_alen, x_ofb, x_ite, xs_nil, xs_cons, x_callv, x_calls, s_callv, s_calls, j_recv, j_ret, j_retv, b_cmp, b_and, b_or, b_not, b_ofi, b_ite, b_true, s_skip, s_set, j_ty, j_lset, j_kill, s_inc, s_fput, j_fput, s_fop, s_aput, j_aput, j_nar, s_aop, s_ret, s_retv, s_go, s_pop, x_linc, x_finc, Value.category, if_icmp.holds, List.flatMap_cons, List.flatMap_nil, List.length_cons, List.length_append, List.length_nil, List.set_cons_succ, List.set_cons_zero, List.getElem?_cons_succ, List.getElem?_cons_zero, List.replicate, h10]
    have a1 : rx_1 ([.ref 77, .int (nI at'), .int (if u then 1 else 0), .int (wy u), .null, .null, .null, .null, .null, .null], h) = some (.inl 0, ([.ref 77, .int (nI at'), .int (if u then 1 else 0), .int (wy u), .long J, .null, .null, .null, .null, .null], h)) := by
      simp (disch := first | assumption | omega) [rx_1, j_meth, j_out, j_rok, j_pad, lg_sl, s_seq_w, isN_inl, isN_inr, s_if, jb, x_c, x_iloc, x_aloc, x_lloc, x_bin, x_un, o_add, o_sub, o_mul, o_and, o_or, o_xor, o_shl, o_shr, o_ushr, o_max, o_min, o_i2b, o_i2c, o_i2l, o_l2i, x_fld, j_fget, x_idx, j_aget, x_len, j_alen, x_ofb, x_ite, xs_nil, xs_cons, x_callv, x_calls, s_callv, s_calls, j_recv, j_ret, j_retv, b_cmp, b_and, b_or, b_not, b_ofi, b_ite, b_true, s_skip, s_set, j_ty, j_lset, j_kill, s_inc, s_fput, j_fput, s_fop, s_aput, j_aput, j_nar, s_aop, s_ret, s_retv, s_go, s_pop, x_linc, x_finc, Value.category, if_icmp.holds, List.flatMap_cons, List.flatMap_nil, List.length_cons, List.length_append, List.length_nil, List.set_cons_succ, List.set_cons_zero, List.getElem?_cons_succ, List.getElem?_cons_zero, List.replicate, t77, k1, k0, k2, hin, hci, gj]
    have a2 : rx_2 ([.ref 77, .int (nI at'), .int (if u then 1 else 0), .int (wy u), .long J, .null, .null, .null, .null, .null], h) = some (.inl 0, ([.ref 77, .int (nI at'), .int (if u then 1 else 0), .int (wy u), .long J, .null, .int (nI 0), .null, .null, .null], h)) := by
      simp (disch := first | assumption | omega) [rx_2, j_meth, j_out, j_rok, j_pad, lg_sl, s_seq_w, isN_inl, isN_inr, s_if, jb, x_c, x_iloc, x_aloc, x_lloc, x_bin, x_un, o_add, o_sub, o_mul, o_and, o_or, o_xor, o_shl, o_shr, o_ushr, o_max, o_min, o_i2b, o_i2c, o_i2l, o_l2i, x_fld, j_fget, x_idx, j_aget, x_len, j_alen, x_ofb, x_ite, xs_nil, xs_cons, x_callv, x_calls, s_callv, s_calls, j_recv, j_ret, j_retv, b_cmp, b_and, b_or, b_not, b_ofi, b_ite, b_true, s_skip, s_set, j_ty, j_lset, j_kill, s_inc, s_fput, j_fput, s_fop, s_aput, j_aput, j_nar, s_aop, s_ret, s_retv, s_go, s_pop, x_linc, x_finc, Value.category, if_icmp.holds, List.flatMap_cons, List.flatMap_nil, List.length_cons, List.length_append, List.length_nil, List.set_cons_succ, List.set_cons_zero, List.getElem?_cons_succ, List.getElem?_cons_zero, List.replicate]
    have a3 : rx_3 ([.ref 77, .int (nI at'), .int (if u then 1 else 0), .int (wy u), .long J, .null, .int (nI 0), .null, .null, .null], h) = some (.inl 0, (st, h1)) := by
      simp (disch := first | assumption | omega) [rx_3, j_meth, j_out, j_rok, j_pad, lg_sl, s_seq_w, isN_inl, isN_inr, s_if, jb, x_c, x_iloc, x_aloc, x_lloc, x_bin, x_un, o_add, o_sub, o_mul, o_and, o_or, o_xor, o_shl, o_shr, o_ushr, o_max, o_min, o_i2b, o_i2c, o_i2l, o_l2i, x_fld, j_fget, x_idx, j_aget, x_len, j_alen, x_ofb, x_ite, xs_nil, xs_cons, x_callv, x_calls, s_callv, s_calls, j_recv, j_ret, j_retv, b_cmp, b_and, b_or, b_not, b_ofi, b_ite, b_true, s_skip, s_set, j_ty, j_lset, j_kill, s_inc, s_fput, j_fput, s_fop, s_aput, j_aput, j_nar, s_aop, s_ret, s_retv, s_go, s_pop, x_linc, x_finc, Value.category, if_icmp.holds, List.flatMap_cons, List.flatMap_nil, List.length_cons, List.length_append, List.length_nil, List.set_cons_succ, List.set_cons_zero, List.getElem?_cons_succ, List.getElem?_cons_zero, List.replicate, hiv, e1]
    simp (disch := first | assumption | omega) [j_meth, j_out, j_rok, j_pad, lg_sl, s_seq_w, isN_inl, isN_inr, s_if, jb, x_c, x_iloc, x_aloc, x_lloc, x_bin, x_un, o_add, o_sub, o_mul, o_and, o_or, o_xor, o_shl, o_shr, o_ushr, o_max, o_min, o_i2b, o_i2c, o_i2l, o_l2i, x_fld, j_fget, x_idx, j_aget, x_len, j_alen, x_ofb, x_ite, xs_nil, xs_cons, x_callv, x_calls, s_callv, s_calls, j_recv, j_ret, j_retv, b_cmp, b_and, b_or, b_not, b_ofi, b_ite, b_true, s_skip, s_set, j_ty, j_lset, j_kill, s_inc, s_fput, j_fput, s_fop, s_aput, j_aput, j_nar, s_aop, s_ret, s_retv, s_go, s_pop, x_linc, x_finc, Value.category, if_icmp.holds, List.flatMap_cons, List.flatMap_nil, List.length_cons, List.length_append, List.length_nil, List.set_cons_succ, List.set_cons_zero, List.getElem?_cons_succ, List.getElem?_cons_zero, List.replicate, a0, a1, a2, a3]
  · obtain ⟨t, t1, t2, t3⟩ := (cov_mem _).mp (n1 j hj)
    rw [← t2]
    exact ⟨(ix_lt ha t1).1, by rw [t2]; exact t3⟩
  · have hR : Ru A (sAllR A) σ u j at' = true := by
      unfold acc at hacc
      rw [Bool.and_eq_true] at hacc
      exact hacc.1
    obtain ⟨t, t1, t2⟩ := ix_of w sok ha hj hR
    exact n2 j ((cov_mem _).mpr ⟨t, t1, t2, hacc⟩)
