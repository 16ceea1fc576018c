/-! the lowest bit -/
theorem xor_two (a b : Nat) : a ^^^ b = 2 * (a / 2 ^^^ b / 2) + (a % 2 + b % 2) % 2 := by
  have h1 : (a ^^^ b) / 2 = a / 2 ^^^ b / 2 := Nat.xor_div_two
  have h2 : (a ^^^ b) % 2 = (a % 2 + b % 2) % 2 := by
    have := Nat.xor_mod_two_pow (a := a) (b := b) (n := 1)
    simp only [Nat.pow_one] at this
    rw [this]
    have ha : a % 2 = 0 ∨ a % 2 = 1 := by omega
    have hb : b % 2 = 0 ∨ b % 2 = 1 := by omega
    rcases ha with ha | ha <;> rcases hb with hb | hb <;> simp [ha, hb]
  omega
theorem ntz_mask : ∀ n x, x < 2 ^ n → x ≠ 0 → ∃ k, k < n ∧ x.testBit k = true ∧ (∀ j, j < k → x.testBit j = false) ∧ (x ^^^ (2 ^ n - 1)) &&& (x - 1) = 2 ^ k - 1 := by
  intro n
  induction n with
  | zero => intro x h1 h2; have : x = 0 := by simpa using h1
            exact absurd this h2
  | succ n ih =>
    intro x h1 h2
    have hp : 2 ^ (n + 1) = 2 * 2 ^ n := by rw [Nat.pow_succ]; omega
    have hpos : 0 < 2 ^ n := Nat.pow_pos (by decide)
    have hx2 : x % 2 = 0 ∨ x % 2 = 1 := by omega
    have em : (2 ^ (n + 1) - 1) / 2 = 2 ^ n - 1 := by omega
    have em2 : (2 ^ (n + 1) - 1) % 2 = 1 := by omega
    rw [and_two, Nat.xor_div_two, em]
    have ex : (x ^^^ (2 ^ (n + 1) - 1)) % 2 = (x % 2 + 1) % 2 := by rw [xor_two, em2]; omega
    rw [ex]
    rcases hx2 with hx2 | hx2
    · have hy : x / 2 ≠ 0 := by omega
      obtain ⟨k, a1, a2, a3, a4⟩ := ih (x / 2) (by omega) hy
      refine ⟨k + 1, by omega, ?_, ?_, ?_⟩
      · rw [Nat.testBit_succ]; exact a2
      · intro j hj
        cases j with
        | zero => rw [Nat.testBit_zero]; simp [hx2]
        | succ j => rw [Nat.testBit_succ]; exact a3 j (by omega)
      · have e1 : (x - 1) / 2 = x / 2 - 1 := by omega
        have e2 : (x - 1) % 2 = 1 := by omega
        rw [e1, e2, a4, hx2]
        have : 2 ^ (k + 1) = 2 * 2 ^ k := by rw [Nat.pow_succ]; omega
        have : 0 < 2 ^ k := Nat.pow_pos (by decide)
        omega
    · refine ⟨0, by omega, ?_, fun j hj => by omega, ?_⟩
      · rw [Nat.testBit_zero]; simp [hx2]
      · have e1 : (x - 1) / 2 = x / 2 := by omega
        have e2 : (x - 1) % 2 = 0 := by omega
        rw [e1, e2, hx2]
        have hz : (x / 2 ^^^ (2 ^ n - 1)) &&& (x / 2) = 0 := by
          apply Nat.eq_of_testBit_eq
          intro i
          rw [Nat.testBit_and, Nat.testBit_xor, Nat.testBit_two_pow_sub_one, Nat.zero_testBit]
          by_cases hi : i < n
          · simp [hi]
          · have : (x / 2).testBit i = false := Nat.testBit_lt_two_pow (Nat.lt_of_lt_of_le (show x / 2 < 2 ^ n by omega) (Nat.pow_le_pow_right (by decide) (by omega)))
            simp [this]
        rw [hz]
def nz1 (c s : Nat) (q : Int32 × Int32) : Int32 × Int32 := if nI c < q.1 then ((q.1.toUInt32 >>> ((nI s).toUInt32 &&& Int32.toUInt32 31)).toInt32, q.2 + nI s) else q
def nzQ (i : Int32) : Int32 × Int32 := nz1 4 2 (nz1 16 4 (nz1 256 8 (nz1 65536 16 (i, nI 1))))
def ntzF (i : Int32) : Int32 := if i ≤ 0 then i &&& nI 32 else (nzQ i).2 + ((nzQ i).1.toUInt32 >>> ((nI 1).toUInt32 &&& Int32.toUInt32 31)).toInt32
theorem ntzF_ok : ∀ k, k < 32 → ntzF (nI (2 ^ k - 1)) = nI k := by decide +kernel
theorem nz_step (c s : Nat) (i n : Int32) (h : jHp) (rest : jSt) : s_seq (s_if (b_cmp .gt (x_iloc 0) (x_c (.int (nI c)))) (s_seq (s_inc 1 (nI s)) (s_set 0 0 (x_bin o_ushr (x_iloc 0) (x_c (.int (nI s)))))) s_skip) rest ([.int i, .int n], h) = rest ([.int (nz1 c s (i, n)).1, .int (nz1 c s (i, n)).2], h) := by
  unfold nz1
  by_cases hc : nI c < i
  · simp [j_meth, j_out, j_rok, j_pad, lg_sl, s_seq_w, isN_inl, isN_inr, s_if, jb, x_c, x_iloc, x_aloc, x_lloc, x_bin, x_un, o_add, o_sub, o_mul, o_and, o_or, o_xor, o_shl, o_shr, o_ushr, o_max, o_min, o_i2b, o_i2c, o_i2l, o_l2i, x_fld, j_fget, x_idx, j_aget, x_len, j_alen, x_ofb, x_ite, xs_nil, xs_cons, x_callv, x_calls, s_callv, s_calls, j_recv, j_ret, j_retv, b_cmp, b_and, b_or, b_not, b_ofi, b_ite, b_true, s_skip, s_set, j_ty, j_lset, j_kill, s_inc, s_fput, j_fput, s_fop, s_aput, j_aput, j_nar, s_aop, s_ret, s_retv, s_go, s_pop, x_linc, x_finc, Value.category, if_icmp.holds, List.flatMap_cons, List.flatMap_nil, List.length_cons, List.length_append, List.length_nil, List.set_cons_succ, List.set_cons_zero, List.getElem?_cons_succ, List.getElem?_cons_zero, List.replicate, hc]
  · simp [j_meth, j_out, j_rok, j_pad, lg_sl, s_seq_w, isN_inl, isN_inr, s_if, jb, x_c, x_iloc, x_aloc, x_lloc, x_bin, x_un, o_add, o_sub, o_mul, o_and, o_or, o_xor, o_shl, o_shr, o_ushr, o_max, o_min, o_i2b, o_i2c, o_i2l, o_l2i, x_fld, j_fget, x_idx, j_aget, x_len, j_alen, x_ofb, x_ite, xs_nil, xs_cons, x_callv, x_calls, s_callv, s_calls, j_recv, j_ret, j_retv, b_cmp, b_and, b_or, b_not, b_ofi, b_ite, b_true, s_skip, s_set, j_ty, j_lset, j_kill, s_inc, s_fput, j_fput, s_fop, s_aput, j_aput, j_nar, s_aop, s_ret, s_retv, s_go, s_pop, x_linc, x_finc, Value.category, if_icmp.holds, List.flatMap_cons, List.flatMap_nil, List.length_cons, List.length_append, List.length_nil, List.set_cons_succ, List.set_cons_zero, List.getElem?_cons_succ, List.getElem?_cons_zero, List.replicate, hc]
def lowN (x : Nat) : Nat := (fst1 (fun i => x.testBit i) 32).getD 32
theorem lowN_ok {x : Nat} (hx : x < 2 ^ 32) (h0 : x ≠ 0) : lowN x < 32 ∧ x.testBit (lowN x) = true ∧ ∀ j, j < lowN x → x.testBit j = false := by
  obtain ⟨k, a1, a2, a3, -⟩ := ntz_mask 32 x hx h0
  have : fst1 (fun i => x.testBit i) 32 = some k := fst1_of a1 a2 a3
  unfold lowN
  rw [this]
  exact ⟨a1, a2, a3⟩
theorem e_J_ntz (h : jHp) {x : Nat} (hx : x < 2 ^ 32) (h0 : x ≠ 0) : f_J_numberOfTrailingZeros [.int (nI x)] h = some (some (.int (nI (lowN x))), h) := by
  obtain ⟨k, a1, a2, a3, a4⟩ := ntz_mask 32 x hx h0
  have hlow : lowN x = k := by
    have : fst1 (fun i => x.testBit i) 32 = some k := fst1_of a1 a2 a3
    unfold lowN
    rw [this]
    rfl
  rw [hlow]
  have hf := ntzF_ok k a1
  have e1 : nI x - nI 1 = nI (x - 1) := pk_sub (by omega)
  have a4' : (x ^^^ 4294967295) &&& (x - 1) = 2 ^ k - 1 := a4
  unfold ntzF at hf
  generalize hi : nI (2 ^ k - 1) = i at *
  have hand : ~~~ nI x &&& nI (x - 1) = i := by rw [n_not, n_and, a4', hi]
  by_cases hle : i ≤ 0
  · rw [if_pos hle] at hf
    simp [f_J_numberOfTrailingZeros, body_J_numberOfTrailingZeros, j_meth, j_out, j_rok, j_pad, lg_sl, s_seq_w, isN_inl, isN_inr, s_if, jb, x_c, x_iloc, x_aloc, x_lloc, x_bin, x_un, o_add, o_sub, o_mul, o_and, o_or, o_xor, o_shl, o_shr, o_ushr, o_max, o_min, o_i2b, o_i2c, o_i2l, o_l2i, x_fld, j_fget, x_idx, j_aget, x_len, j_alen, x_ofb, x_ite, xs_nil, xs_cons, x_callv, x_calls, s_callv, s_calls, j_recv, j_ret, j_retv, b_cmp, b_and, b_or, b_not, b_ofi, b_ite, b_true, s_skip, s_set, j_ty, j_lset, j_kill, s_inc, s_fput, j_fput, s_fop, s_aput, j_aput, j_nar, s_aop, s_ret, s_retv, s_go, s_pop, x_linc, x_finc, Value.category, if_icmp.holds, List.flatMap_cons, List.flatMap_nil, List.length_cons, List.length_append, List.length_nil, List.set_cons_succ, List.set_cons_zero, List.getElem?_cons_succ, List.getElem?_cons_zero, List.replicate, e1, hand, hle, hf]
  · rw [if_neg hle] at hf
    have hst : f_J_numberOfTrailingZeros [.int (nI x)] h = j_out 1 ((s_seq (s_if (b_cmp .gt (x_iloc 0) (x_c (.int (nI 65536)))) (s_seq (s_inc 1 (nI 16)) (s_set 0 0 (x_bin o_ushr (x_iloc 0) (x_c (.int (nI 16)))))) s_skip) (s_seq (s_if (b_cmp .gt (x_iloc 0) (x_c (.int (nI 256)))) (s_seq (s_inc 1 (nI 8)) (s_set 0 0 (x_bin o_ushr (x_iloc 0) (x_c (.int (nI 8)))))) s_skip) (s_seq (s_if (b_cmp .gt (x_iloc 0) (x_c (.int (nI 16)))) (s_seq (s_inc 1 (nI 4)) (s_set 0 0 (x_bin o_ushr (x_iloc 0) (x_c (.int (nI 4)))))) s_skip) (s_seq (s_if (b_cmp .gt (x_iloc 0) (x_c (.int (nI 4)))) (s_seq (s_inc 1 (nI 2)) (s_set 0 0 (x_bin o_ushr (x_iloc 0) (x_c (.int (nI 2)))))) s_skip) (s_ret (x_bin o_add (x_iloc 1) (x_bin o_ushr (x_iloc 0) (x_c (.int (nI 1)))))))))) ([.int i, .int (nI 1)], h)) := by
      simp [f_J_numberOfTrailingZeros, body_J_numberOfTrailingZeros, j_meth, j_out, j_rok, j_pad, lg_sl, s_seq_w, isN_inl, isN_inr, s_if, jb, x_c, x_iloc, x_aloc, x_lloc, x_bin, x_un, o_add, o_sub, o_mul, o_and, o_or, o_xor, o_shl, o_shr, o_ushr, o_max, o_min, o_i2b, o_i2c, o_i2l, o_l2i, x_fld, j_fget, x_idx, j_aget, x_len, j_alen, x_ofb, x_ite, xs_nil, xs_cons, x_callv, x_calls, s_callv, s_calls, j_recv, j_ret, j_retv, b_cmp, b_and, b_or, b_not, b_ofi, b_ite, b_true, s_skip, s_set, j_ty, j_lset, j_kill, s_inc, s_fput, j_fput, s_fop, s_aput, j_aput, j_nar, s_aop, s_ret, s_retv, s_go, s_pop, x_linc, x_finc, Value.category, if_icmp.holds, List.flatMap_cons, List.flatMap_nil, List.length_cons, List.length_append, List.length_nil, List.set_cons_succ, List.set_cons_zero, List.getElem?_cons_succ, List.getElem?_cons_zero, List.replicate, e1, hand, hle]
    rw [hst, nz_step, nz_step, nz_step, nz_step]
    have hq : nz1 4 2 ((nz1 16 4 ((nz1 256 8 ((nz1 65536 16 (i, nI 1)).1, (nz1 65536 16 (i, nI 1)).2)).1, (nz1 256 8 ((nz1 65536 16 (i, nI 1)).1, (nz1 65536 16 (i, nI 1)).2)).2)).1, (nz1 16 4 ((nz1 256 8 ((nz1 65536 16 (i, nI 1)).1, (nz1 65536 16 (i, nI 1)).2)).1, (nz1 256 8 ((nz1 65536 16 (i, nI 1)).1, (nz1 65536 16 (i, nI 1)).2)).2)).2) = nzQ i := rfl
    rw [hq]
    simp [j_meth, j_out, j_rok, j_pad, lg_sl, s_seq_w, isN_inl, isN_inr, s_if, jb, x_c, x_iloc, x_aloc, x_lloc, x_bin, x_un, o_add, o_sub, o_mul, o_and, o_or, o_xor, o_shl, o_shr, o_ushr, o_max, o_min, o_i2b, o_i2c, o_i2l, o_l2i, x_fld, j_fget, x_idx, j_aget, x_len, j_alen, x_ofb, x_ite, xs_nil, xs_cons, x_callv, x_calls, s_callv, s_calls, j_recv, j_ret, j_retv, b_cmp, b_and, b_or, b_not, b_ofi, b_ite, b_true, s_skip, s_set, j_ty, j_lset, j_kill, s_inc, s_fput, j_fput, s_fop, s_aput, j_aput, j_nar, s_aop, s_ret, s_retv, s_go, s_pop, x_linc, x_finc, Value.category, if_icmp.holds, List.flatMap_cons, List.flatMap_nil, List.length_cons, List.length_append, List.length_nil, List.set_cons_succ, List.set_cons_zero, List.getElem?_cons_succ, List.getElem?_cons_zero, List.replicate, hf]
