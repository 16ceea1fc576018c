noncomputable def chT3 : jSt := (s_seq (s_aput 1 (x_fld 12 1 24 (x_aloc 0)) (x_iloc 1) (x_fld 12 0 46 (x_aloc 0))) (s_seq (s_aput 1 (x_fld 12 1 26 (x_aloc 0)) (x_iloc 1) (x_fld 12 0 48 (x_aloc 0))) (s_seq (s_aput 1 (x_fld 12 1 28 (x_aloc 0)) (x_iloc 1) (x_fld 12 0 50 (x_aloc 0))) (s_seq (s_seq (s_set 0 3 (x_c (.int (nI 0)))) (s_loop 5 6 (lc_M_choice_3) (lb_M_choice_3) (lu_M_choice_3))) (s_seq (s_fput 12 0 1 37 (x_aloc 0) (x_c (.int (nI 0)))) (s_ret (x_iloc 2)))))))
noncomputable def chT2 : jSt := (s_seq (s_aput 3 (x_fld 12 1 17 (x_aloc 0)) (x_iloc 1) (x_c (.int (nI 1)))) (s_seq (s_aput 1 (x_fld 12 1 18 (x_aloc 0)) (x_iloc 1) (x_fld 12 0 40 (x_aloc 0))) (s_seq (s_aput 1 (x_fld 12 1 19 (x_aloc 0)) (x_iloc 1) (x_fld 12 0 41 (x_aloc 0))) (s_seq (s_aput 1 (x_fld 12 1 21 (x_aloc 0)) (x_iloc 1) (x_fld 12 0 43 (x_aloc 0))) (s_seq (s_seq (s_set 0 3 (x_c (.int (nI 0)))) (s_loop 3 4 (lc_M_choice_2) (lb_M_choice_2) (lu_M_choice_2))) chT3)))))
noncomputable def chT1 : jSt := (s_seq (s_set 0 2 (x_c (.int (nI 0)))) (s_seq (s_do 1 2 (lb_M_choice_1) (lc_M_choice_1)) (s_seq (s_if (b_cmp .lt (x_fld 12 0 39 (x_aloc 0)) (x_fld 12 0 38 (x_aloc 0))) (s_ret (x_bin o_sub (x_c (.int (-1))) (x_fld 12 0 39 (x_aloc 0)))) s_skip) chT2)))
noncomputable def chT0 : jSt := (s_seq (s_fput 12 0 0 39 (x_aloc 0) (x_c (.int (nI 0)))) (s_seq (s_fput 12 0 0 40 (x_aloc 0) (x_c (.int (nI 8)))) (s_seq (s_fput 12 0 0 41 (x_aloc 0) (x_c (.int (-1)))) (s_seq (s_fput 12 0 0 43 (x_aloc 0) (x_c (.int (nI 0)))) (s_seq (s_fput 12 0 0 46 (x_aloc 0) (x_c (.int (nI 0)))) (s_seq (s_fput 12 0 0 48 (x_aloc 0) (x_c (.int (nI 0)))) (s_seq (s_fput 12 0 0 50 (x_aloc 0) (x_c (.int (nI 0)))) chT1)))))))
theorem ch_body : body_M_choice = (s_seq (s_fput 12 0 0 33 (x_aloc 0) (x_c (.int (nI 0)))) (s_seq (s_fput 12 0 0 38 (x_aloc 0) (x_fld 12 0 30 (x_aloc 0))) (s_seq (s_fput 12 0 0 30 (x_aloc 0) (x_c (.int (nI 0)))) (s_seq (s_if (b_not (b_ofi (x_callv 12 f_M_isOffice (xs_cons (x_aloc 0) (xs_cons (x_iloc 1) xs_nil))))) (s_ret (x_c (.int (-100)))) s_skip) chT0)))) := rfl
theorem s_do_ret {lb lc : Nat} {c : jB} {b : jSt} {st st' : jS} {v : Option Value} (h : b st = some (.inr v, st')) : s_do lb lc b c st = some (.inr v, st') := s_do_of (n := 1) (by simp [j_doN, h, jb])
theorem s_do_end {lb lc : Nat} {c : jB} {b : jSt} {st st1 st2 : jS} (h : b st = some (.inl 0, st1)) (hc : c st1 = some (false, st2)) : s_do lb lc b c st = some (.inl 0, st2) := s_do_of (n := 1) (by simp [j_doN, h, hc, jb])
theorem s_do_go {lb lc : Nat} {c : jB} {b : jSt} {st st1 st2 : jS} {r : jO × jS} (h : b st = some (.inl 0, st1)) (hc : c st1 = some (true, st2)) (h2 : s_do lb lc b c st2 = some r) : s_do lb lc b c st = some r := by
  obtain ⟨n, hn⟩ := s_do_ex h2
  exact s_do_of (n := n + 1) (by simp only [j_doN, h, jb_some, hc]; simpa using hn)
def pAl (tx : List Nat) : Nat → Nat → CH → Nat → Option (CH × Nat) × Nat
  | 0, i, _, _ => (none, i)
  | n + 1, i, C, k => match pLn tx i C with
    | (none, j) => (none, j)
    | (some C', j) => if tg tx j = some 59 then pAl tx n (j + 1) C' (k + 1) else if j < tx.length then (none, j) else (some (C', k + 1), j)
def CHk (C : CH) (n : Nat) : Prop := cMost C ≤ 999 ∧ (∀ m, cMoney C = some m → m ≤ 999) ∧ (cKeys C).length ≤ 5 ∧ (∀ k ∈ cKeys C, k.1 < 5) ∧ (cKeeps C).length ≤ n ∧ (∀ k ∈ cKeeps C, k.1 < 4 ∧ k.2 ≤ 9) ∧ (cBoths C).length ≤ n ∧ (∀ m ∈ cBoths C, ∃ a b, a < 7 ∧ b < 7 ∧ a ≠ b ∧ m = 2 ^ a ||| 2 ^ b) ∧ (cNevers C).length ≤ n ∧ (∀ m ∈ cNevers C, ∃ a b, a < 7 ∧ b < 7 ∧ a ≠ b ∧ m = 2 ^ a ||| 2 ^ b)
theorem pKey_lt5 {tx : List Nat} {i j : Nat} {k : Nat × Bool} (h : pKey tx i = (some k, j)) : k.1 < 5 ∧ j = i + 2 ∧ i + 1 < 60 := by
  have hp := (pKey_pos h).2.2 rfl
  refine ⟨?_, hp⟩
  unfold pKey at h
  split at h
  · cases hl : (tg tx (i + 1)).bind ltI with
    | none => rw [hl] at h; cases h
    | some q =>
      rw [hl] at h; cases h
      cases ho : tg tx (i + 1) with
      | none => rw [ho] at hl; cases hl
      | some b => rw [ho] at hl; exact ltI_lt hl
  · cases h
theorem pKs_ok {tx : List Nat} : ∀ n i ks ks' j, pKs tx n i ks = (some ks', j) → (∀ k ∈ ks, k.1 < 5) → i ≤ 60 → (∀ k ∈ ks', k.1 < 5) ∧ ks'.length ≤ ks.length + n ∧ i ≤ j ∧ j ≤ 60 := by
  intro n
  induction n with
  | zero => intro i ks ks' j h hk hi; simp only [pKs] at h; cases h; exact ⟨hk, by omega, by omega, hi⟩
  | succ n ih =>
    intro i ks ks' j h hk hi
    simp only [pKs] at h
    split at h
    · cases hK : pKey tx i with
      | mk o j1 =>
        rw [hK] at h
        cases o with
        | none => cases h
        | some k =>
          obtain ⟨q1, q2, q3⟩ := pKey_lt5 hK
          obtain ⟨a1, a2, a3, a4⟩ := ih j1 (ks ++ [k]) ks' j h (fun x hx => by
            rcases List.mem_append.mp hx with z | z
            · exact hk x z
            · simp only [List.mem_singleton] at z; subst z; exact q1) (by omega)
          rw [List.length_append, List.length_singleton] at a2
          exact ⟨a1, by omega, by omega, a4⟩
    · cases h; exact ⟨hk, by omega, by omega, hi⟩
theorem pKyA_ok {tx : List Nat} {i j : Nat} {ks : List (Nat × Bool)} (h : pKyA tx i = (some ks, j)) : (∀ k ∈ ks, k.1 < 5) ∧ ks.length ≤ 5 ∧ i + 2 ≤ j ∧ j ≤ 60 := by
  unfold pKyA at h
  cases hK : pKey tx i with
  | mk o j1 =>
    rw [hK] at h
    cases o with
    | none => cases h
    | some k =>
      obtain ⟨q1, q2, q3⟩ := pKey_lt5 hK
      obtain ⟨a1, a2, a3, a4⟩ := pKs_ok 4 j1 [k] ks j h (fun x hx => by simp only [List.mem_singleton] at hx; subst hx; exact q1) (by omega)
      exact ⟨a1, by simpa using a2, by omega, a4⟩
theorem pKep_ok {tx : List Nat} {i j : Nat} {m : Nat × Nat} (h : pKep tx i = (some m, j)) : m.1 < 4 ∧ m.2 ≤ 9 ∧ j = i + 3 ∧ j ≤ 62 := by
  unfold pKep at h
  cases c1 : pDig tx 51 i with
  | none => rw [c1] at h; cases h
  | some k =>
    rw [c1] at h
    simp only at h
    split at h
    · cases c3 : pDig tx 57 (i + 2) with
      | none => rw [c3] at h; cases h
      | some v =>
        rw [c3] at h; cases h
        have a := pDig_lt c1
        have b := pDig_lt c3
        exact ⟨by simp only; omega, by simp only; omega, rfl, by omega⟩
    · cases h
theorem tg_lt60 {tx : List Nat} {i b : Nat} (h : tg tx i = some b) : i < 60 ∧ i < tx.length := by
  unfold tg at h
  split at h
  · rename_i q; exact ⟨q.2, q.1⟩
  · cases h
theorem pLn_ok {tx : List Nat} {i j k : Nat} {C C' : CH} (hC : CHk C k) (h : pLn tx i C = (some C', j)) : CHk C' (k + 1) ∧ i + 2 ≤ j ∧ j ≤ 63 := by
  obtain ⟨a1, a2, a3, a4, a5, a6, a7, a8, a9, a10⟩ := hC
  unfold pLn at h
  split at h
  · rename_i c
    have h60 := tg_lt60 c
    cases hq : pNum tx (i + 1) with
    | none => rw [hq] at h; cases h
    | some q =>
      rw [hq] at h; cases h
      have := pNum_lt hq
      exact ⟨⟨this.1, a2, a3, a4, Nat.le_succ_of_le a5, a6, Nat.le_succ_of_le a7, a8, Nat.le_succ_of_le a9, a10⟩, by omega, by omega⟩
  split at h
  · rename_i c
    have h60 := tg_lt60 c
    cases hq : pNum tx (i + 1) with
    | none => rw [hq] at h; cases h
    | some q =>
      rw [hq] at h; cases h
      have := pNum_lt hq
      exact ⟨⟨a1, fun m hm => by
        have hm' : some q.1 = some m := hm
        cases hm'; exact this.1, a3, a4, Nat.le_succ_of_le a5, a6, Nat.le_succ_of_le a7, a8, Nat.le_succ_of_le a9, a10⟩, by omega, by omega⟩
  split at h
  · rename_i c
    have h60 := tg_lt60 c
    cases hq : pKyA tx (i + 1) with
    | mk o j1 =>
      rw [hq] at h
      cases o with
      | none => cases h
      | some ks =>
        cases h
        have := pKyA_ok hq
        exact ⟨⟨a1, a2, this.2.1, this.1, Nat.le_succ_of_le a5, a6, Nat.le_succ_of_le a7, a8, Nat.le_succ_of_le a9, a10⟩, by omega, by omega⟩
  split at h
  · rename_i c
    have h60 := tg_lt60 c
    cases hq : pKep tx (i + 1) with
    | mk o j1 =>
      rw [hq] at h
      cases o with
      | none => cases h
      | some m =>
        cases h
        have := pKep_ok hq
        refine ⟨⟨a1, a2, a3, a4, ?_, ?_, Nat.le_succ_of_le a7, a8, Nat.le_succ_of_le a9, a10⟩, by omega, by omega⟩
        · show (cKeeps C ++ [m]).length ≤ k + 1
          rw [List.length_append, List.length_singleton]; omega
        · intro x hx
          have hx' : x ∈ cKeeps C ++ [m] := hx
          rcases List.mem_append.mp hx' with z | z
          · exact a6 x z
          · simp only [List.mem_singleton] at z; subst z; exact ⟨this.1, this.2.1⟩
  split at h
  · rename_i c
    have h60 := tg_lt60 c
    cases hq : pTwo tx 38 (i + 1) with
    | mk o j1 =>
      rw [hq] at h
      cases o with
      | none => cases h
      | some m =>
        cases h
        have := pTwo_ok hq
        refine ⟨⟨a1, a2, a3, a4, Nat.le_succ_of_le a5, a6, ?_, ?_, Nat.le_succ_of_le a9, a10⟩, by omega, by omega⟩
        · show (cBoths C ++ [m]).length ≤ k + 1
          rw [List.length_append, List.length_singleton]; omega
        · intro x hx
          have hx' : x ∈ cBoths C ++ [m] := hx
          rcases List.mem_append.mp hx' with z | z
          · exact a8 x z
          · simp only [List.mem_singleton] at z; subst z; exact this.1
  split at h
  · rename_i c
    have h60 := tg_lt60 c
    cases hq : pTwo tx 124 (i + 1) with
    | mk o j1 =>
      rw [hq] at h
      cases o with
      | none => cases h
      | some m =>
        cases h
        have := pTwo_ok hq
        refine ⟨⟨a1, a2, a3, a4, Nat.le_succ_of_le a5, a6, Nat.le_succ_of_le a7, a8, ?_, ?_⟩, by omega, by omega⟩
        · show (cNevers C ++ [m]).length ≤ k + 1
          rw [List.length_append, List.length_singleton]; omega
        · intro x hx
          have hx' : x ∈ cNevers C ++ [m] := hx
          rcases List.mem_append.mp hx' with z | z
          · exact a10 x z
          · simp only [List.mem_singleton] at z; subst z; exact this.1
  · cases h
theorem e_ch_do {tx : List Nat} {f : Int32} : ∀ n i (h : jHp) (C : CH) (k : Nat), 63 ≤ i + 3 * n → i ≤ 61 → 3 * k ≤ i → CHk C k → RP tx i h → RCn C h →
    ∃ h' v, RP tx (pAl tx n i C k).2 h' ∧ Fr Wln h h' ∧ (match (pAl tx n i C k).1 with
      | some q => s_do 1 2 lb_M_choice_1 lc_M_choice_1 ([.ref 98, .int f, .int (nI k), .null], h) = some (.inl 0, ([.ref 98, .int f, .int (nI q.2), .null], h')) ∧ RCn q.1 h' ∧ CHk q.1 21 ∧ tx.length ≤ (pAl tx n i C k).2 ∧ (pAl tx n i C k).2 ≤ 63
      | none => (s_do 1 2 lb_M_choice_1 lc_M_choice_1 ([.ref 98, .int f, .int (nI k), .null], h) = some (.inr (some (.int (-1 - nI (pAl tx n i C k).2))), ([.ref 98, .int f, .int (nI k), .null], h'))) ∨ (s_do 1 2 lb_M_choice_1 lc_M_choice_1 ([.ref 98, .int f, .int (nI k), .null], h) = some (.inl 0, ([.ref 98, .int f, v, .null], h')) ∧ (pAl tx n i C k).2 < tx.length) ∨ (∃ k', s_do 1 2 lb_M_choice_1 lc_M_choice_1 ([.ref 98, .int f, .int (nI k), .null], h) = some (.inr (some (.int (-1 - nI (pAl tx n i C k).2))), ([.ref 98, .int f, .int (nI k'), .null], h')))) := by
  intro n
  induction n with
  | zero => intro i h C k h1 h2; omega
  | succ n ih =>
    intro i h C k h1 h2 h3 hC r rc
    have hs := r.1
    have l1 := hC.2.2.2.2.1
    have l2 := hC.2.2.2.2.2.2.1
    have l3 := hC.2.2.2.2.2.2.2.2.1
    obtain ⟨h', e1, r1, f1, g1⟩ := e_M_line r (by omega) rc (by omega) (by omega) (by omega)
    have hs1 := r1.1
    cases hP : pLn tx i C with
    | mk o j =>
      rw [hP] at e1 r1 g1
      simp only at e1 r1 g1
      have c39 := r1.2.2.2.1
      cases o with
      | none =>
        have hA : pAl tx (n + 1) i C k = (none, j) := by simp only [pAl, hP]
        rw [hA]
        refine ⟨h', .null, r1, f1, Or.inl (s_do_ret ?_)⟩
        simp (disch := first | assumption | omega) [lb_M_choice_1, j_meth, j_out, j_rok, j_pad, lg_sl, s_seq_w, isN_inl, isN_inr, s_if, jb, x_c, x_iloc, x_aloc, x_lloc, x_bin, x_un, o_add, o_sub, o_mul, o_and, o_or, o_xor, o_shl, o_shr, o_ushr, o_max, o_min, o_i2b, o_i2c, o_i2l, o_l2i, x_fld, j_fget, x_idx, j_aget, x_len, j_alen, x_ofb, x_ite, xs_nil, xs_cons, x_callv, x_calls, s_callv, s_calls, j_recv, j_ret, j_retv, b_cmp, b_and, b_or, b_not, b_ofi, b_ite, b_true, s_skip, s_set, j_ty, j_lset, j_kill, s_inc, s_fput, j_fput, s_fop, s_aput, j_aput, j_nar, s_aop, s_ret, s_retv, s_go, s_pop, x_linc, x_finc, Value.category, if_icmp.holds, List.flatMap_cons, List.flatMap_nil, List.length_cons, List.length_append, List.length_nil, List.set_cons_succ, List.set_cons_zero, List.getElem?_cons_succ, List.getElem?_cons_zero, List.replicate, ite_and', ite_or', ite_int', nI_leI, nI_ltI, nI_eq, nI_add, nI_1, pk_mul, nI_clamp, n_in', nI_pos', nI_pos, n_m1e, n_01, n_10, sT_98, sT_99, sT_100, sT_101, sT_102, sT_103, sT_104, sT_105, sT_106, sT_107, sT_108, sT_109, sT_110, sT_111, sT_112, sT_113, sT_114, sT_115, sT_116, sT_117, sT_118, sT_119, sT_120, sT_121, sT_122, sT_123, sT_124, sT_125, sT_126, sT_127, sT_128, sT_129, sT_130, sT_131, sT_132, sT_133, sT_134, sT_135, sT_136, sT_137, sT_138, sT_139, sT_140, sR_98_1, sR_98_4, sR_98_5, sR_98_6, sR_98_7, sR_98_8, sR_98_9, sR_98_10, sR_98_12, sR_98_13, sR_98_14, sR_98_15, sR_98_16, sR_98_17, sR_98_18, sR_98_19, sR_98_20, sR_98_21, sR_98_22, sR_98_23, sR_98_24, sR_98_25, sR_98_26, sR_98_27, sR_98_28, sR_98_29, sR_98_31, sR_98_34, sR_98_35, sR_98_36, sR_98_42, sR_98_44, sR_98_45, sR_98_47, sR_98_49, sR_98_51, sR_98_56, sR_98_58, sR_98_62, sR_98_65, sR_98_66, sR_98_69, e1, c39]
      | some C' =>
        obtain ⟨hC', p1, p2⟩ := pLn_ok hC hP
        have rc1 := g1 C' rfl
        have hb : lb_M_choice_1 ([.ref 98, .int f, .int (nI k), .null], h) = some (.inl 0, ([.ref 98, .int f, .int (nI (k + 1)), .null], h')) := by
          simp (disch := first | assumption | omega) [lb_M_choice_1, j_meth, j_out, j_rok, j_pad, lg_sl, s_seq_w, isN_inl, isN_inr, s_if, jb, x_c, x_iloc, x_aloc, x_lloc, x_bin, x_un, o_add, o_sub, o_mul, o_and, o_or, o_xor, o_shl, o_shr, o_ushr, o_max, o_min, o_i2b, o_i2c, o_i2l, o_l2i, x_fld, j_fget, x_idx, j_aget, x_len, j_alen, x_ofb, x_ite, xs_nil, xs_cons, x_callv, x_calls, s_callv, s_calls, j_recv, j_ret, j_retv, b_cmp, b_and, b_or, b_not, b_ofi, b_ite, b_true, s_skip, s_set, j_ty, j_lset, j_kill, s_inc, s_fput, j_fput, s_fop, s_aput, j_aput, j_nar, s_aop, s_ret, s_retv, s_go, s_pop, x_linc, x_finc, Value.category, if_icmp.holds, List.flatMap_cons, List.flatMap_nil, List.length_cons, List.length_append, List.length_nil, List.set_cons_succ, List.set_cons_zero, List.getElem?_cons_succ, List.getElem?_cons_zero, List.replicate, ite_and', ite_or', ite_int', nI_leI, nI_ltI, nI_eq, nI_add, nI_1, pk_mul, nI_clamp, n_in', nI_pos', nI_pos, n_m1e, n_01, n_10, sT_98, sT_99, sT_100, sT_101, sT_102, sT_103, sT_104, sT_105, sT_106, sT_107, sT_108, sT_109, sT_110, sT_111, sT_112, sT_113, sT_114, sT_115, sT_116, sT_117, sT_118, sT_119, sT_120, sT_121, sT_122, sT_123, sT_124, sT_125, sT_126, sT_127, sT_128, sT_129, sT_130, sT_131, sT_132, sT_133, sT_134, sT_135, sT_136, sT_137, sT_138, sT_139, sT_140, sR_98_1, sR_98_4, sR_98_5, sR_98_6, sR_98_7, sR_98_8, sR_98_9, sR_98_10, sR_98_12, sR_98_13, sR_98_14, sR_98_15, sR_98_16, sR_98_17, sR_98_18, sR_98_19, sR_98_20, sR_98_21, sR_98_22, sR_98_23, sR_98_24, sR_98_25, sR_98_26, sR_98_27, sR_98_28, sR_98_29, sR_98_31, sR_98_34, sR_98_35, sR_98_36, sR_98_42, sR_98_44, sR_98_45, sR_98_47, sR_98_49, sR_98_51, sR_98_56, sR_98_58, sR_98_62, sR_98_65, sR_98_66, sR_98_69, e1]
        obtain ⟨h2', e2, r2, f2⟩ := e_M_passes r1 (by omega) (c := 59) (by decide)
        have hs2 := r2.1
        have rc2 := RCn_39 rc1 f2
        have fl2 : Fr Wln h h2' := Fr_trans f1 (Fr_mono f2 (by unfold W39 Wln; intro a k; omega))
        by_cases hsc : tg tx j = some 59
        · have hA : pAl tx (n + 1) i C k = pAl tx n (j + 1) C' (k + 1) := by simp only [pAl, hP, hsc, if_true]
          rw [hA]
          rw [if_pos hsc] at e2 r2
          have hj := tg_lt60 hsc
          have hcd : lc_M_choice_1 ([.ref 98, .int f, .int (nI (k + 1)), .null], h') = some (true, ([.ref 98, .int f, .int (nI (k + 1)), .null], h2')) := by
            simp (disch := first | assumption | omega) [lc_M_choice_1, j_meth, j_out, j_rok, j_pad, lg_sl, s_seq_w, isN_inl, isN_inr, s_if, jb, x_c, x_iloc, x_aloc, x_lloc, x_bin, x_un, o_add, o_sub, o_mul, o_and, o_or, o_xor, o_shl, o_shr, o_ushr, o_max, o_min, o_i2b, o_i2c, o_i2l, o_l2i, x_fld, j_fget, x_idx, j_aget, x_len, j_alen, x_ofb, x_ite, xs_nil, xs_cons, x_callv, x_calls, s_callv, s_calls, j_recv, j_ret, j_retv, b_cmp, b_and, b_or, b_not, b_ofi, b_ite, b_true, s_skip, s_set, j_ty, j_lset, j_kill, s_inc, s_fput, j_fput, s_fop, s_aput, j_aput, j_nar, s_aop, s_ret, s_retv, s_go, s_pop, x_linc, x_finc, Value.category, if_icmp.holds, List.flatMap_cons, List.flatMap_nil, List.length_cons, List.length_append, List.length_nil, List.set_cons_succ, List.set_cons_zero, List.getElem?_cons_succ, List.getElem?_cons_zero, List.replicate, ite_and', ite_or', ite_int', nI_leI, nI_ltI, nI_eq, nI_add, nI_1, pk_mul, nI_clamp, n_in', nI_pos', nI_pos, n_m1e, n_01, n_10, sT_98, sT_99, sT_100, sT_101, sT_102, sT_103, sT_104, sT_105, sT_106, sT_107, sT_108, sT_109, sT_110, sT_111, sT_112, sT_113, sT_114, sT_115, sT_116, sT_117, sT_118, sT_119, sT_120, sT_121, sT_122, sT_123, sT_124, sT_125, sT_126, sT_127, sT_128, sT_129, sT_130, sT_131, sT_132, sT_133, sT_134, sT_135, sT_136, sT_137, sT_138, sT_139, sT_140, sR_98_1, sR_98_4, sR_98_5, sR_98_6, sR_98_7, sR_98_8, sR_98_9, sR_98_10, sR_98_12, sR_98_13, sR_98_14, sR_98_15, sR_98_16, sR_98_17, sR_98_18, sR_98_19, sR_98_20, sR_98_21, sR_98_22, sR_98_23, sR_98_24, sR_98_25, sR_98_26, sR_98_27, sR_98_28, sR_98_29, sR_98_31, sR_98_34, sR_98_35, sR_98_36, sR_98_42, sR_98_44, sR_98_45, sR_98_47, sR_98_49, sR_98_51, sR_98_56, sR_98_58, sR_98_62, sR_98_65, sR_98_66, sR_98_69, e2]
          obtain ⟨h3', v, r3, f3, g3⟩ := ih (j + 1) h2' C' (k + 1) (by omega) (by omega) (by omega) hC' r2 rc2
          refine ⟨h3', v, r3, Fr_trans fl2 f3, ?_⟩
          cases hz : (pAl tx n (j + 1) C' (k + 1)).1 with
          | some q => rw [hz] at g3; exact ⟨s_do_go hb hcd g3.1, g3.2⟩
          | none =>
            rw [hz] at g3
            rcases g3 with g | g | ⟨k', g⟩
            · exact Or.inr (Or.inr ⟨k + 1, s_do_go hb hcd g⟩)
            · exact Or.inr (Or.inl ⟨s_do_go hb hcd g.1, g.2⟩)
            · exact Or.inr (Or.inr ⟨k', s_do_go hb hcd g⟩)
        · rw [if_neg hsc] at e2 r2
          have hcd : lc_M_choice_1 ([.ref 98, .int f, .int (nI (k + 1)), .null], h') = some (false, ([.ref 98, .int f, .int (nI (k + 1)), .null], h2')) := by
            simp (disch := first | assumption | omega) [lc_M_choice_1, j_meth, j_out, j_rok, j_pad, lg_sl, s_seq_w, isN_inl, isN_inr, s_if, jb, x_c, x_iloc, x_aloc, x_lloc, x_bin, x_un, o_add, o_sub, o_mul, o_and, o_or, o_xor, o_shl, o_shr, o_ushr, o_max, o_min, o_i2b, o_i2c, o_i2l, o_l2i, x_fld, j_fget, x_idx, j_aget, x_len, j_alen, x_ofb, x_ite, xs_nil, xs_cons, x_callv, x_calls, s_callv, s_calls, j_recv, j_ret, j_retv, b_cmp, b_and, b_or, b_not, b_ofi, b_ite, b_true, s_skip, s_set, j_ty, j_lset, j_kill, s_inc, s_fput, j_fput, s_fop, s_aput, j_aput, j_nar, s_aop, s_ret, s_retv, s_go, s_pop, x_linc, x_finc, Value.category, if_icmp.holds, List.flatMap_cons, List.flatMap_nil, List.length_cons, List.length_append, List.length_nil, List.set_cons_succ, List.set_cons_zero, List.getElem?_cons_succ, List.getElem?_cons_zero, List.replicate, ite_and', ite_or', ite_int', nI_leI, nI_ltI, nI_eq, nI_add, nI_1, pk_mul, nI_clamp, n_in', nI_pos', nI_pos, n_m1e, n_01, n_10, sT_98, sT_99, sT_100, sT_101, sT_102, sT_103, sT_104, sT_105, sT_106, sT_107, sT_108, sT_109, sT_110, sT_111, sT_112, sT_113, sT_114, sT_115, sT_116, sT_117, sT_118, sT_119, sT_120, sT_121, sT_122, sT_123, sT_124, sT_125, sT_126, sT_127, sT_128, sT_129, sT_130, sT_131, sT_132, sT_133, sT_134, sT_135, sT_136, sT_137, sT_138, sT_139, sT_140, sR_98_1, sR_98_4, sR_98_5, sR_98_6, sR_98_7, sR_98_8, sR_98_9, sR_98_10, sR_98_12, sR_98_13, sR_98_14, sR_98_15, sR_98_16, sR_98_17, sR_98_18, sR_98_19, sR_98_20, sR_98_21, sR_98_22, sR_98_23, sR_98_24, sR_98_25, sR_98_26, sR_98_27, sR_98_28, sR_98_29, sR_98_31, sR_98_34, sR_98_35, sR_98_36, sR_98_42, sR_98_44, sR_98_45, sR_98_47, sR_98_49, sR_98_51, sR_98_56, sR_98_58, sR_98_62, sR_98_65, sR_98_66, sR_98_69, e2]
          by_cases hjl : j < tx.length
          · have hA : pAl tx (n + 1) i C k = (none, j) := by simp only [pAl, hP, hsc, if_false, hjl, if_true]
            rw [hA]
            exact ⟨h2', .int (nI (k + 1)), r2, fl2, Or.inr (Or.inl ⟨s_do_end hb hcd, hjl⟩)⟩
          · have hA : pAl tx (n + 1) i C k = (some (C', k + 1), j) := by simp only [pAl, hP, hsc, if_false, hjl]
            rw [hA]
            refine ⟨h2', .null, r2, fl2, s_do_end hb hcd, rc2, ?_, by simp only; omega, p2⟩
            obtain ⟨b1, b2, b3, b4, b5, b6, b7, b8, b9, b10⟩ := hC'
            exact ⟨b1, b2, b3, b4, Nat.le_trans b5 (by omega), b6, Nat.le_trans b7 (by omega), b8, Nat.le_trans b9 (by omega), b10⟩
