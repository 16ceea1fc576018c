/-! Standing: makeRoom; the sorting purely -/
def cD (s : Nat → Nat) (N q : Nat) : Nat := cntN (fun k => decide (s k < q)) N
theorem cntN_s (p : Nat → Bool) (n : Nat) : cntN p (n + 1) = if p n then cntN p n + 1 else cntN p n := rfl
theorem tlC_s (s : Nat → Nat) (n q : Nat) : tlC s (n + 1) q = tlC s n q + if s n = q then 1 else 0 := rfl
theorem cD_s (s : Nat → Nat) (q : Nat) : ∀ N, cD s N (q + 1) = cD s N q + tlC s N q := by
  intro N
  induction N with
  | zero => rfl
  | succ N ih =>
    have e1 : cD s (N + 1) (q + 1) = if decide (s N < q + 1) then cD s N (q + 1) + 1 else cD s N (q + 1) := rfl
    have e2 : cD s (N + 1) q = if decide (s N < q) then cD s N q + 1 else cD s N q := rfl
    rw [e1, e2, tlC_s, ih]
    by_cases h1 : s N < q
    · rw [if_pos (by simp; omega), if_pos (by simp; omega), if_neg (by omega)]
      omega
    · by_cases h2 : s N = q
      · rw [if_pos (by simp; omega), if_neg (by simp; omega), if_pos h2]
        omega
      · rw [if_neg (by simp; omega), if_neg (by simp; omega), if_neg h2]
        omega
theorem cD_0 (s : Nat → Nat) (N : Nat) : cD s N 0 = 0 := by
  induction N with
  | zero => rfl
  | succ N ih =>
    have e2 : cD s (N + 1) 0 = if decide (s N < 0) then cD s N 0 + 1 else cD s N 0 := rfl
    rw [e2, if_neg (by simp), ih]
theorem cD_mono (s : Nat → Nat) (N : Nat) {q r : Nat} (h : q ≤ r) : cD s N q ≤ cD s N r := by
  induction r with
  | zero => have : q = 0 := by omega
            rw [this]; exact Nat.le_refl _
  | succ r ih =>
    by_cases e : q = r + 1
    · rw [e]; exact Nat.le_refl _
    · have := ih (by omega)
      rw [cD_s]
      omega
theorem cD_le (s : Nat → Nat) (N q : Nat) : cD s N q ≤ N := cntN_le _ _
theorem tlC_mono (s : Nat → Nat) (q : Nat) {n m : Nat} (h : n ≤ m) : tlC s n q ≤ tlC s m q := by
  induction m with
  | zero => have : n = 0 := by omega
            rw [this]; exact Nat.le_refl _
  | succ m ih =>
    by_cases e : n = m + 1
    · rw [e]; exact Nat.le_refl _
    · have := ih (by omega)
      rw [tlC_s]
      omega
def cP (s : Nat → Nat) (N k : Nat) : Nat := cD s N (s k) + tlC s k (s k)
theorem cP_lt' {s : Nat → Nat} {N k : Nat} (hk : k < N) : cP s N k < cD s N (s k + 1) := by
  unfold cP
  rw [cD_s]
  have h1 := tlC_mono s (s k) (show k + 1 ≤ N by omega)
  rw [tlC_s, if_pos rfl] at h1
  omega
theorem cP_lt {s : Nat → Nat} {N k : Nat} (hk : k < N) : cP s N k < N := Nat.lt_of_lt_of_le (cP_lt' hk) (cD_le s N _)
theorem cP_ord {s : Nat → Nat} {N k m : Nat} (hk : k < N) (h : s k < s m) : cP s N k < cP s N m := by
  have h1 := cP_lt' (s := s) hk
  have h2 := cD_mono s N (show s k + 1 ≤ s m by omega)
  have h3 : cD s N (s m) ≤ cP s N m := Nat.le_add_right _ _
  omega
theorem cP_ord2 {s : Nat → Nat} {N k m : Nat} (h : s k = s m) (hkm : k < m) : cP s N k < cP s N m := by
  have h1 := tlC_mono s (s k) (show k + 1 ≤ m by omega)
  rw [tlC_s, if_pos rfl] at h1
  unfold cP
  rw [← h]
  omega
theorem cP_inj {s : Nat → Nat} {N k m : Nat} (hk : k < N) (hm : m < N) (h : cP s N k = cP s N m) : k = m := by
  by_cases h1 : s k < s m
  · have := cP_ord hk h1; omega
  · by_cases h2 : s m < s k
    · have := cP_ord hm h2; omega
    · have h3 : s k = s m := by omega
      by_cases h4 : k < m
      · have := cP_ord2 (N := N) h3 h4; omega
      · by_cases h5 : m < k
        · have := cP_ord2 (N := N) h3.symm h5; omega
        · omega
theorem cP_sur {s : Nat → Nat} {N i : Nat} (hi : i < N) : ∃ k, k < N ∧ cP s N k = i := by
  apply Classical.byContradiction
  intro hno
  have hnd : (i :: (List.range N).map (cP s N)).Nodup := by
    rw [List.nodup_cons]
    refine ⟨fun h => ?_, ?_⟩
    · obtain ⟨k, k1, k2⟩ := List.mem_map.mp h
      exact hno ⟨k, List.mem_range.mp k1, k2⟩
    · unfold List.Nodup
      rw [List.pairwise_map]
      refine List.Pairwise.imp_of_mem ?_ List.nodup_range
      intro a b ha hb hne e
      exact hne (cP_inj (List.mem_range.mp ha) (List.mem_range.mp hb) e)
  have := nd_le (N := N) hnd (fun x hx => by
    rcases List.mem_cons.mp hx with e | hx
    · rw [e]; exact hi
    · obtain ⟨k, k1, k2⟩ := List.mem_map.mp hx
      rw [← k2]
      exact cP_lt (List.mem_range.mp k1))
  simp at this
  omega
theorem tlC_suc (s : Nat → Nat) (q : Nat) : ∀ N, tlC (fun k => s k + 1) N (q + 1) = tlC s N q := by
  intro N
  induction N with
  | zero => rfl
  | succ N ih =>
    rw [tlC_s, tlC_s, ih]
    congr 1
    have : (s N + 1 = q + 1) = (s N = q) := by apply propext; omega
    simp only [this]
theorem tlC_suc0 (s : Nat → Nat) : ∀ N, tlC (fun k => s k + 1) N 0 = 0 := by
  intro N
  induction N with
  | zero => rfl
  | succ N ih => rw [tlC_s, ih, if_neg (by omega)]
/-- an array made and put into a field -/
def mkF (h : jHp) (kind len k : Nat) : jHp := hSetR (hNew h kind len) 77 k (hN h)
theorem mkF_I (h : jHp) (kind len k a i : Nat) : hI (mkF h kind len k) a i = if a = hN h then 0 else hI h a i := rfl
theorem mkF_J (h : jHp) (kind len k a i : Nat) : hJ (mkF h kind len k) a i = if a = hN h then 0 else hJ h a i := rfl
theorem mkF_R (h : jHp) (kind len k a i : Nat) : hR (mkF h kind len k) a i = if a = 77 ∧ i = k then hN h else if a = hN h then 0 else hR h a i := rfl
theorem mkF_T (h : jHp) (kind len k a : Nat) : hT (mkF h kind len k) a = if a = hN h then (kind, len) else hT h a := rfl
theorem mkF_N (h : jHp) (kind len k : Nat) : hN (mkF h kind len k) = hN h + 1 := rfl
theorem mkF_S (h : jHp) (kind len k : Nat) : hS (mkF h kind len k) = hS h + len := rfl
theorem mkF_FG {h : jHp} {kind len k : Nat} (hk : 8 ≤ k ∧ k ≤ 12) (W U : Nat → Nat → Prop) : FG W U h (mkF h kind len k) := by
  refine ⟨fun a ha => by rw [mkF_T, if_neg (by omega)], by rw [mkF_N]; omega, fun a i ha _ => by rw [mkF_I, if_neg (by omega)], fun a i ha _ => by rw [mkF_J, if_neg (by omega)], fun a i ha hn => ?_⟩
  unfold Vg at hn
  rw [mkF_R, if_neg (by omega), if_neg (by omega)]
theorem mkF_put {h : jHp} (hs : Shape h) {fa fl kind k : Nat} (r6 : hR h 77 6 = fa) (tf : hT h fa = (1, fl)) (n0 : fa ≠ 0) (hfl : fl ≤ 1000000) : (s_fput 9 1 0 k (x_aloc 0) (x_newa kind (x_len 1 (x_fld 9 1 6 (x_aloc 0))))) ([.ref 77], h) = some (.inl 0, ([.ref 77], mkF h kind fl k)) := by
  have t77 := sT_77 hs
  have h142 := hs.2.2
  have h0 : (0 : Int32) ≤ nI fl := nI_pos' (by omega)
  have cl : (nI fl).toNatClampNeg = fl := nI_clamp (by omega)
  have t2 : hT (hNew h kind fl) 77 = (19, 15) := by rw [hT_new, if_neg (by omega)]; exact t77
  have nn : hN h ≠ 0 := by omega
  simp (disch := first | assumption | omega) [j_meth, j_out, j_rok, j_pad, lg_sl, s_seq_w, isN_inl, isN_inr, s_if, jb, x_c, x_iloc, x_aloc, x_lloc, x_bin, x_un, o_add, o_sub, o_mul, o_and, o_or, o_xor, o_shl, o_shr, o_ushr, o_max, o_min, o_i2b, o_i2c, o_i2l, o_l2i, x_fld, j_fget, x_idx, j_aget, x_len, j_alen, x_ofb, x_ite, xs_nil, xs_cons, x_callv, x_calls, s_callv, s_calls, j_recv, j_ret, j_retv, b_cmp, b_and, b_or, b_not, b_ofi, b_ite, b_true, s_skip, s_set, j_ty, j_lset, j_kill, s_inc, s_fput, j_fput, s_fop, s_aput, j_aput, j_nar, s_aop, s_ret, s_retv, s_go, s_pop, x_linc, x_finc, Value.category, if_icmp.holds, List.flatMap_cons, List.flatMap_nil, List.length_cons, List.length_append, List.length_nil, List.set_cons_succ, List.set_cons_zero, List.getElem?_cons_succ, List.getElem?_cons_zero, List.replicate, ite_and', ite_or', ite_int', nI_leI, nI_ltI, nI_eq, nI_add, nI_1, pk_mul, nI_clamp, n_in', nI_pos', nI_pos, n_m1e, n_01, n_10, sT_1, sR_1_0, sR_1_1, sR_1_2, sR_1_3, sR_1_4, sR_1_5, sR_1_6, sR_1_7, sR_1_8, sR_1_9, sT_2, sT_3, sT_4, sT_5, sT_6, sT_7, sT_8, sT_9, sT_10, sT_11, sT_12, sT_13, sT_14, sR_2_1, sR_2_2, sR_2_3, sR_2_4, sR_2_5, sR_2_6, sR_2_7, sR_2_8, sR_2_9, sR_2_10, sR_2_11, sR_2_12, sT_15, sT_16, sT_17, sT_18, sT_19, sT_20, sT_21, sT_22, sT_23, sR_15_1, sR_15_2, sR_15_3, sR_15_4, sR_15_5, sR_15_6, sR_15_7, sR_15_8, sT_24, sT_25, sT_26, sT_27, sT_28, sT_29, sR_24_1, sR_24_2, sR_24_3, sR_24_4, sR_24_5, sT_71, sT_72, sR_71_0, sR_71_1, sR_71_2, sR_71_3, sR_71_4, sT_73, sT_74, sT_75, sR_73_0, sR_73_1, sR_73_2, sR_73_3, sR_73_4, sR_73_5, sT_84, sT_85, sT_86, sT_87, sR_84_0, sR_84_1, sR_84_2, sR_84_3, sR_84_4, sR_84_5, sT_88, sT_89, sR_88_0, sT_90, sT_91, sR_90_0, t77, r6, tf, n0, x_newa, h0, cl, hfl, t2, nn]
  rfl
theorem mk_two {x y : Nat} (h : 64 * 2 ^ x < 64 * 2 ^ y) : 2 * (64 * 2 ^ x) ≤ 64 * 2 ^ y := by
  have hxy : x < y := by
    apply Nat.lt_of_not_le
    intro q
    have : (2 : Nat) ^ y ≤ 2 ^ x := Nat.pow_le_pow_right (by decide) q
    omega
  have : (2 : Nat) ^ (x + 1) ≤ 2 ^ y := Nat.pow_le_pow_right (by decide) hxy
  rw [Nat.pow_succ] at this
  omega
noncomputable def mr_p (kind k : Nat) : jSt := (s_fput 9 1 0 k (x_aloc 0) (x_newa kind (x_len 1 (x_fld 9 1 6 (x_aloc 0)))))
theorem mr_s : f_St_makeRoom = j_meth 0 1 (s_seq (s_if (b_cmp .lt (x_len 5 (x_fld 9 1 8 (x_aloc 0))) (x_fld 9 0 7 (x_aloc 0))) (s_seq (mr_p 5 8) (s_seq (mr_p 1 9) (s_seq (mr_p 1 10) (s_seq (mr_p 1 11) (mr_p 1 12))))) s_skip) s_retv) := rfl
theorem e_St_makeRoom {h : jHp} (hs : Shape h) {fa fl sl ra rl so di qu co n : Nat} (g : CGr fa fl fa sl ra rl so di qu co h) (k7 : hI h 77 7 = nI n) (hn : n ≤ fl) : ∃ h' ra' rl' so' di' qu' co', f_St_makeRoom [.ref 77] h = some (none, h') ∧ CGr fa fl fa sl ra' rl' so' di' qu' co' h' ∧ n ≤ rl' ∧ FG (fun _ _ => False) (fun _ _ => False) h h' ∧ hS h ≤ hS h' ∧ hN h' + pot h ≤ hN h + pot h' ∧ hS h' + pot h ≤ hS h + pot h' := by
  have g0 := g
  obtain ⟨⟨g1, g2, g3, g4, g5, g6, g7, g8, g9, g10, g11, g12, g13, g14⟩, ⟨i1, i2, i3, i4, i5, i6, i7⟩, ⟨b1, b2, b3, b4, b5, b6, b7⟩, ⟨n1, n2, n3, n4, n5, n6, n7, n8, n9, n10⟩, ⟨i, hi, hfl⟩, ⟨j, hj, hrl⟩⟩ := g
  have hb : (64 * 2 ^ i) ≤ 64 * 2 ^ 8 := Nat.mul_le_mul_left _ (Nat.pow_le_pow_right (by decide) hi)
  have hb2 : (64 * 2 ^ j) ≤ 64 * 2 ^ 8 := Nat.mul_le_mul_left _ (Nat.pow_le_pow_right (by decide) hj)
  have nfa : fa ≠ 0 := by unfold isG at i1; omega
  have nra : ra ≠ 0 := by unfold isG at i3; omega
  have f77 : fa ≠ 77 := by unfold isG at i1; omega
  have t77 := sT_77 hs
  have h142 := hs.2.2
  rw [mr_s]
  by_cases hc : rl < n
  case neg =>
    have hlt : (rl < n) = False := eq_false hc
    refine ⟨h, ra, rl, so, di, qu, co, ?_, g0, by omega, FG_refl _ _ _, Nat.le_refl _, Nat.le_refl _, Nat.le_refl _⟩
    simp (disch := first | assumption | omega) [j_meth, j_out, j_rok, j_pad, lg_sl, s_seq_w, isN_inl, isN_inr, s_if, jb, x_c, x_iloc, x_aloc, x_lloc, x_bin, x_un, o_add, o_sub, o_mul, o_and, o_or, o_xor, o_shl, o_shr, o_ushr, o_max, o_min, o_i2b, o_i2c, o_i2l, o_l2i, x_fld, j_fget, x_idx, j_aget, x_len, j_alen, x_ofb, x_ite, xs_nil, xs_cons, x_callv, x_calls, s_callv, s_calls, j_recv, j_ret, j_retv, b_cmp, b_and, b_or, b_not, b_ofi, b_ite, b_true, s_skip, s_set, j_ty, j_lset, j_kill, s_inc, s_fput, j_fput, s_fop, s_aput, j_aput, j_nar, s_aop, s_ret, s_retv, s_go, s_pop, x_linc, x_finc, Value.category, if_icmp.holds, List.flatMap_cons, List.flatMap_nil, List.length_cons, List.length_append, List.length_nil, List.set_cons_succ, List.set_cons_zero, List.getElem?_cons_succ, List.getElem?_cons_zero, List.replicate, ite_and', ite_or', ite_int', nI_leI, nI_ltI, nI_eq, nI_add, nI_1, pk_mul, nI_clamp, n_in', nI_pos', nI_pos, n_m1e, n_01, n_10, sT_1, sR_1_0, sR_1_1, sR_1_2, sR_1_3, sR_1_4, sR_1_5, sR_1_6, sR_1_7, sR_1_8, sR_1_9, sT_2, sT_3, sT_4, sT_5, sT_6, sT_7, sT_8, sT_9, sT_10, sT_11, sT_12, sT_13, sT_14, sR_2_1, sR_2_2, sR_2_3, sR_2_4, sR_2_5, sR_2_6, sR_2_7, sR_2_8, sR_2_9, sR_2_10, sR_2_11, sR_2_12, sT_15, sT_16, sT_17, sT_18, sT_19, sT_20, sT_21, sT_22, sT_23, sR_15_1, sR_15_2, sR_15_3, sR_15_4, sR_15_5, sR_15_6, sR_15_7, sR_15_8, sT_24, sT_25, sT_26, sT_27, sT_28, sT_29, sR_24_1, sR_24_2, sR_24_3, sR_24_4, sR_24_5, sT_71, sT_72, sR_71_0, sR_71_1, sR_71_2, sR_71_3, sR_71_4, sT_73, sT_74, sT_75, sR_73_0, sR_73_1, sR_73_2, sR_73_3, sR_73_4, sR_73_5, sT_84, sT_85, sT_86, sT_87, sR_84_0, sR_84_1, sR_84_2, sR_84_3, sR_84_4, sR_84_5, sT_88, sT_89, sR_88_0, sT_90, sT_91, sR_90_0, t77, g5, nra, g6, k7, hlt]
  have hflb : fl ≤ 1000000 := by omega
  have hlt : (rl < n) = True := eq_true hc
  generalize hh1 : mkF h 5 fl 8 = h1
  generalize hh2 : mkF h1 1 fl 9 = h2
  generalize hh3 : mkF h2 1 fl 10 = h3
  generalize hh4 : mkF h3 1 fl 11 = h4
  generalize hh5 : mkF h4 1 fl 12 = h5
  have N1 : hN h1 = hN h + 1 := by rw [← hh1]; rfl
  have N2 : hN h2 = hN h + 2 := by rw [← hh2, mkF_N, N1]
  have N3 : hN h3 = hN h + 3 := by rw [← hh3, mkF_N, N2]
  have N4 : hN h4 = hN h + 4 := by rw [← hh4, mkF_N, N3]
  have N5 : hN h5 = hN h + 5 := by rw [← hh5, mkF_N, N4]
  have F1 : FG (fun _ _ => False) (fun _ _ => False) h h1 := by rw [← hh1]; exact mkF_FG (by omega) _ _
  have F2 : FG (fun _ _ => False) (fun _ _ => False) h1 h2 := by rw [← hh2]; exact mkF_FG (by omega) _ _
  have F3 : FG (fun _ _ => False) (fun _ _ => False) h2 h3 := by rw [← hh3]; exact mkF_FG (by omega) _ _
  have F4 : FG (fun _ _ => False) (fun _ _ => False) h3 h4 := by rw [← hh4]; exact mkF_FG (by omega) _ _
  have F5 : FG (fun _ _ => False) (fun _ _ => False) h4 h5 := by rw [← hh5]; exact mkF_FG (by omega) _ _
  have F : FG (fun _ _ => False) (fun _ _ => False) h h5 := FG_trans (FG_trans (FG_trans (FG_trans F1 F2) F3) F4) F5
  have s1 := FG_shape hs F1
  have s2 := FG_shape s1 F2
  have s3 := FG_shape s2 F3
  have s4 := FG_shape s3 F4
  have s5 := FG_shape s4 F5
  have R1 : ∀ k, k ≠ 8 → hR h1 77 k = hR h 77 k := fun k hk => by rw [← hh1, mkF_R, if_neg (by omega), if_neg (by omega)]
  have R2 : ∀ k, k ≠ 9 → hR h2 77 k = hR h1 77 k := fun k hk => by rw [← hh2, mkF_R, if_neg (by omega), if_neg (by omega)]
  have R3 : ∀ k, k ≠ 10 → hR h3 77 k = hR h2 77 k := fun k hk => by rw [← hh3, mkF_R, if_neg (by omega), if_neg (by omega)]
  have R4 : ∀ k, k ≠ 11 → hR h4 77 k = hR h3 77 k := fun k hk => by rw [← hh4, mkF_R, if_neg (by omega), if_neg (by omega)]
  have R5 : ∀ k, k ≠ 12 → hR h5 77 k = hR h4 77 k := fun k hk => by rw [← hh5, mkF_R, if_neg (by omega), if_neg (by omega)]
  have P8 : hR h5 77 8 = hN h := by rw [R5 _ (by decide), R4 _ (by decide), R3 _ (by decide), R2 _ (by decide), ← hh1, mkF_R, if_pos ⟨rfl, rfl⟩]
  have P9 : hR h5 77 9 = hN h + 1 := by rw [R5 _ (by decide), R4 _ (by decide), R3 _ (by decide), ← hh2, mkF_R, if_pos ⟨rfl, rfl⟩, N1]
  have P10 : hR h5 77 10 = hN h + 2 := by rw [R5 _ (by decide), R4 _ (by decide), ← hh3, mkF_R, if_pos ⟨rfl, rfl⟩, N2]
  have P11 : hR h5 77 11 = hN h + 3 := by rw [R5 _ (by decide), ← hh4, mkF_R, if_pos ⟨rfl, rfl⟩, N3]
  have P12 : hR h5 77 12 = hN h + 4 := by rw [← hh5, mkF_R, if_pos ⟨rfl, rfl⟩, N4]
  have P6 : hR h5 77 6 = fa := by rw [R5 _ (by decide), R4 _ (by decide), R3 _ (by decide), R2 _ (by decide), R1 _ (by decide)]; exact g3
  have P73 : hR h5 73 11 = fa := by
    rw [← hh5, mkF_R, if_neg (by omega), if_neg (by omega), ← hh4, mkF_R, if_neg (by omega), if_neg (by omega), ← hh3, mkF_R, if_neg (by omega), if_neg (by omega), ← hh2, mkF_R, if_neg (by omega), if_neg (by omega), ← hh1, mkF_R, if_neg (by omega), if_neg (by omega)]
    exact g1
  have T : ∀ a, hT h5 a = if a = hN h + 4 then (1, fl) else if a = hN h + 3 then (1, fl) else if a = hN h + 2 then (1, fl) else if a = hN h + 1 then (1, fl) else if a = hN h then (5, fl) else hT h a := fun a => by
    rw [← hh5, mkF_T, N4, ← hh4, mkF_T, N3, ← hh3, mkF_T, N2, ← hh2, mkF_T, N1, ← hh1, mkF_T]
  have SS : hS h5 = hS h + 5 * fl := by
    rw [← hh5, mkF_S, ← hh4, mkF_S, ← hh3, mkF_S, ← hh2, mkF_S, ← hh1, mkF_S]
    omega
  have hrf : 2 * rl ≤ fl := by
    rw [hrl, hfl]
    exact mk_two (by omega)
  have pp : pot h = 2 * fl + 10 * rl := by
    unfold pot
    rw [g1, g2, g5, g6]
  have pp5 : pot h5 = 2 * fl + 10 * fl := by
    unfold pot
    rw [P73, P8, F.1 _ b1, g2, T, if_neg (by omega), if_neg (by omega), if_neg (by omega), if_neg (by omega), if_pos rfl]
  have hflp : 1 ≤ fl := by omega
  refine ⟨h5, hN h, fl, hN h + 1, hN h + 2, hN h + 3, hN h + 4, ?_, ⟨⟨P73, by rw [F.1 _ b1]; exact g2, P6, by rw [F.1 _ b2]; exact g4, P8, ?_, P9, ?_, P10, ?_, P11, ?_, P12, ?_⟩, ⟨i1, i2, ?_, ?_, ?_, ?_, ?_⟩, ⟨by omega, by omega, by omega, by omega, by omega, by omega, by omega⟩, ⟨by omega, by omega, by omega, by omega, by omega, by omega, by omega, by omega, by omega, by omega⟩, ⟨i, hi, hfl⟩, ⟨i, hi, hfl⟩⟩, hn, F, by omega, by omega, by omega⟩
  · have e1 : mr_p 5 8 ([.ref 77], h) = some (.inl 0, ([.ref 77], h1)) := by
      rw [← hh1]
      exact mkF_put hs g3 g2 nfa hflb
    have e2 : mr_p 1 9 ([.ref 77], h1) = some (.inl 0, ([.ref 77], h2)) := by
      rw [← hh2]
      exact mkF_put s1 (by rw [R1 _ (by decide)]; exact g3) (by rw [F1.1 _ b1]; exact g2) nfa hflb
    have F12 := FG_trans F1 F2
    have e3 : mr_p 1 10 ([.ref 77], h2) = some (.inl 0, ([.ref 77], h3)) := by
      rw [← hh3]
      exact mkF_put s2 (by rw [R2 _ (by decide), R1 _ (by decide)]; exact g3) (by rw [F12.1 _ b1]; exact g2) nfa hflb
    have F13 := FG_trans F12 F3
    have e4 : mr_p 1 11 ([.ref 77], h3) = some (.inl 0, ([.ref 77], h4)) := by
      rw [← hh4]
      exact mkF_put s3 (by rw [R3 _ (by decide), R2 _ (by decide), R1 _ (by decide)]; exact g3) (by rw [F13.1 _ b1]; exact g2) nfa hflb
    have F14 := FG_trans F13 F4
    have e5 : mr_p 1 12 ([.ref 77], h4) = some (.inl 0, ([.ref 77], h5)) := by
      rw [← hh5]
      exact mkF_put s4 (by rw [R4 _ (by decide), R3 _ (by decide), R2 _ (by decide), R1 _ (by decide)]; exact g3) (by rw [F14.1 _ b1]; exact g2) nfa hflb
    clear F F1 F2 F3 F4 F5 F12 F13 F14 T hh1 hh2 hh3 hh4 hh5 R1 R2 R3 R4 R5 g0
    simp (disch := first | assumption | omega) [j_meth, j_out, j_rok, j_pad, lg_sl, s_seq_w, isN_inl, isN_inr, s_if, jb, x_c, x_iloc, x_aloc, x_lloc, x_bin, x_un, o_add, o_sub, o_mul, o_and, o_or, o_xor, o_shl, o_shr, o_ushr, o_max, o_min, o_i2b, o_i2c, o_i2l, o_l2i, x_fld, j_fget, x_idx, j_aget, x_len, j_alen, x_ofb, x_ite, xs_nil, xs_cons, x_callv, x_calls, s_callv, s_calls, j_recv, j_ret, j_retv, b_cmp, b_and, b_or, b_not, b_ofi, b_ite, b_true, s_skip, s_set, j_ty, j_lset, j_kill, s_inc, s_fput, j_fput, s_fop, s_aput, j_aput, j_nar, s_aop, s_ret, s_retv, s_go, s_pop, x_linc, x_finc, Value.category, if_icmp.holds, List.flatMap_cons, List.flatMap_nil, List.length_cons, List.length_append, List.length_nil, List.set_cons_succ, List.set_cons_zero, List.getElem?_cons_succ, List.getElem?_cons_zero, List.replicate, ite_and', ite_or', ite_int', nI_leI, nI_ltI, nI_eq, nI_add, nI_1, pk_mul, nI_clamp, n_in', nI_pos', nI_pos, n_m1e, n_01, n_10, sT_1, sR_1_0, sR_1_1, sR_1_2, sR_1_3, sR_1_4, sR_1_5, sR_1_6, sR_1_7, sR_1_8, sR_1_9, sT_2, sT_3, sT_4, sT_5, sT_6, sT_7, sT_8, sT_9, sT_10, sT_11, sT_12, sT_13, sT_14, sR_2_1, sR_2_2, sR_2_3, sR_2_4, sR_2_5, sR_2_6, sR_2_7, sR_2_8, sR_2_9, sR_2_10, sR_2_11, sR_2_12, sT_15, sT_16, sT_17, sT_18, sT_19, sT_20, sT_21, sT_22, sT_23, sR_15_1, sR_15_2, sR_15_3, sR_15_4, sR_15_5, sR_15_6, sR_15_7, sR_15_8, sT_24, sT_25, sT_26, sT_27, sT_28, sT_29, sR_24_1, sR_24_2, sR_24_3, sR_24_4, sR_24_5, sT_71, sT_72, sR_71_0, sR_71_1, sR_71_2, sR_71_3, sR_71_4, sT_73, sT_74, sT_75, sR_73_0, sR_73_1, sR_73_2, sR_73_3, sR_73_4, sR_73_5, sT_84, sT_85, sT_86, sT_87, sR_84_0, sR_84_1, sR_84_2, sR_84_3, sR_84_4, sR_84_5, sT_88, sT_89, sR_88_0, sT_90, sT_91, sR_90_0, t77, g5, nra, g6, k7, hlt, e1, e2, e3, e4, e5]
  · rw [T, if_neg (by omega), if_neg (by omega), if_neg (by omega), if_neg (by omega), if_pos rfl]
  · rw [T, if_neg (by omega), if_neg (by omega), if_neg (by omega), if_pos rfl]
  · rw [T, if_neg (by omega), if_neg (by omega), if_pos rfl]
  · rw [T, if_neg (by omega), if_pos rfl]
  · rw [T, if_pos rfl]
  · unfold isG; omega
  · unfold isG; omega
  · unfold isG; omega
  · unfold isG; omega
  · unfold isG; omega
