/-! RULES as the program that prints the walks uses them -/
/-- what the tables say of a field that is read: its link, its sort, its place -/
def FW (own : String) (i ci t j : Nat) : Prop := Jvm.Cond.fieldLink own i ((kc ci).2.1 j).1 ((kc ci).2.1 j).2.1 ((kc ci).2.1 j).2.2.1 ∈ jtbl ∧ j_isref (kty ci j) = decide (t ≠ 0) ∧ j < (kc ci).2.2
/-- of a field that is written -/
def PW (own : String) (ini : Bool) (i ci t z j : Nat) : Prop := FW own i ci t j ∧ ci < 13 ∧ (((kc ci).2.1 j).2.2.2 = false ∨ (ini = true ∧ ((kc ci).2.1 j).1 = own)) ∧ (z = 0 → kty ci j ≠ .boolean)
section Rules4
variable {M : jMs} {C : jC} {k pc p1 p2 p3 p4 p5 tT tF : Nat} {tg : Nat → Nat}
theorem ei_fw {i ci t j : Nat} {o : jE} (ho : EI M C k pc p1 o) (hd : decode M.2.1 p1 = .ok (.getfield i, 3)) (hw : FW M.1 i ci t j) : EI M C k pc (p1 + 3) (x_fld ci t j o) := ei_fld ho hd hw.1 hw.2.1 hw.2.2
theorem op_pw {i ci t z j : Nat} (hd : decode M.2.1 p1 = .ok (.putfield i, 3)) (hw : PW M.1 M.2.2.2.2.2.2 i ci t z j) : OPF M C p1 (p1 + 3) ci t z j := opf hd hw.1.1 hw.1.2.2 hw.2.1 hw.2.2.1 hw.1.2.1 hw.2.2.2
theorem si_fopw {i ci j : Nat} {f : Value → Value → Option Value} {o e : jE} (ho : EI M C 0 pc p1 o) (hd1 : decode M.2.1 p1 = .ok (.dup, 1)) (hd2 : decode M.2.1 (p1 + 1) = .ok (.getfield i, 3)) (hw : FW M.1 i ci 0 j) (he0 : EI M C 4 (p1 + 4) p2 e) (hop : OP2 M C p2 p3 f) (hp : OPF M C p3 p4 ci 0 0 j) : SI M C tg pc p4 (s_fop ci j f o e) := si_fop ho hd1 hd2 hw.1 hw.2.1 hw.2.2 he0 hop hp
theorem ei_fincw {i ci j : Nat} {o : jE} (ho : EI M C k pc p1 o) (hd1 : decode M.2.1 p1 = .ok (.dup, 1)) (hd2 : decode M.2.1 (p1 + 1) = .ok (.getfield i, 3)) (hd3 : decode M.2.1 (p1 + 4) = .ok (.dup_x1, 1)) (hd4 : decode M.2.1 (p1 + 5) = .ok (.iconst 1, 1)) (hd5 : decode M.2.1 (p1 + 6) = .ok (.iadd, 1)) (hp : OPF M C (p1 + 7) (p1 + 10) ci 0 0 j) (hw : FW M.1 i ci 0 j) : EI M C k pc (p1 + 10) (x_finc ci j o) := ei_finc ho hd1 hd2 hd3 hd4 hd5 hp hw.1 hw.2.1 hw.2.2
theorem ei_goto {a : jE} {off : Int} (ha : EI M C k pc p1 a) (hd : decode M.2.1 p1 = .ok (.goto off, 3)) (ht : (p1 : Int) + off = (p2 : Int)) : EI M C k pc p2 a := by
  intro L h v L' h' he
  obtain ⟨m1, m2, K1⟩ := ha _ _ _ _ _ he
  exact ⟨m1, m2, fun hG stk hk c1 c2 K => K1 hG stk hk c1 c2 (ww_goto hG hd ht K)⟩
theorem ei_ite2 {c : jB} {a b : jE} (hc : BI M C k pc tT tF c) (ha : EI M C k tT p2 a) (hb : EI M C k tF p2 b) : EI M C k pc p2 (x_ite c a b) := by
  intro L h v L' h' he
  simp only [x_ite] at he
  obtain ⟨t, ⟨L1, h1'⟩, e1, he⟩ := jb_eq he
  obtain ⟨m1, m2, K1⟩ := hc _ _ _ _ _ e1
  cases t with
  | true =>
    obtain ⟨n1, n2, K2⟩ := ha _ _ _ _ _ he
    exact ⟨Nat.le_trans m1 n1, Nat.le_trans m2 n2, fun hG stk hk c1 c2 K => K1 hG stk hk (Nat.le_trans n1 c1) (Nat.le_trans n2 c2) (K2 hG stk hk c1 c2 K)⟩
  | false =>
    obtain ⟨n1, n2, K2⟩ := hb _ _ _ _ _ he
    exact ⟨Nat.le_trans m1 n1, Nat.le_trans m2 n2, fun hG stk hk c1 c2 K => K1 hG stk hk (Nat.le_trans n1 c1) (Nat.le_trans n2 c2) (K2 hG stk hk c1 c2 K)⟩
/-- 1 and 0 by a condition, both coming to one place -/
theorem ei_ofb2 {c : jB} (hc : BI M C k pc tT tF c) (ha : EI M C k tT p2 (x_c (.int 1))) (hb : EI M C k tF p2 (x_c (.int 0))) : EI M C k pc p2 (x_ofb c) := by
  intro L h v L' h' he
  refine ei_ite2 hc ha hb L h v L' h' ?_
  simp only [x_ofb, x_ite] at he ⊢
  obtain ⟨t, ⟨L1, h1⟩, e1, he⟩ := jb_eq he
  rw [e1, jb_some]
  cases t <;> exact he
theorem bi_ite {c a b : jB} {off : Int} {pg : Nat} (hc : BI M C k pc p1 p2 c) (ha : BI M C k p1 pg tF a) (hd : decode M.2.1 pg = .ok (.goto off, 3)) (ht : (pg : Int) + off = (tT : Int)) (hb : BI M C k p2 tT tF b) : BI M C k pc tT tF (b_ite c a b) := by
  intro L h v L' h' he
  simp only [b_ite] at he
  obtain ⟨t, ⟨L1, h1'⟩, e1, he⟩ := jb_eq he
  obtain ⟨m1, m2, K1⟩ := hc _ _ _ _ _ e1
  cases t with
  | true =>
    obtain ⟨n1, n2, K2⟩ := ha _ _ _ _ _ he
    refine ⟨Nat.le_trans m1 n1, Nat.le_trans m2 n2, fun hG stk hk c1 c2 K => K1 hG stk hk (Nat.le_trans n1 c1) (Nat.le_trans n2 c2) (K2 hG stk hk c1 c2 ?_)⟩
    cases v with
    | true => exact ww_goto hG hd ht K
    | false => exact K
  | false =>
    obtain ⟨n1, n2, K2⟩ := hb _ _ _ _ _ he
    exact ⟨Nat.le_trans m1 n1, Nat.le_trans m2 n2, fun hG stk hk c1 c2 K => K1 hG stk hk (Nat.le_trans n1 c1) (Nat.le_trans n2 c2) (K2 hG stk hk c1 c2 K)⟩
/-- a comparison that jumps when it holds not; one that jumps when it holds -/
theorem neg_eq : ∀ x y : Int32, if_icmp.holds .ne x y = (true ^^ if_icmp.holds .eq x y) := fun x y => by simp [if_icmp.holds, bne]
theorem neg_ne : ∀ x y : Int32, if_icmp.holds .eq x y = (true ^^ if_icmp.holds .ne x y) := fun x y => by simp [if_icmp.holds, bne]
theorem neg_lt : ∀ x y : Int32, if_icmp.holds .ge x y = (true ^^ if_icmp.holds .lt x y) := fun x y => by simp only [if_icmp.holds, Bool.true_xor]; rw [← decide_not]; exact decide_eq_decide.mpr Int32.not_lt.symm
theorem neg_ge : ∀ x y : Int32, if_icmp.holds .lt x y = (true ^^ if_icmp.holds .ge x y) := fun x y => by simp only [if_icmp.holds, Bool.true_xor]; rw [← decide_not]; exact decide_eq_decide.mpr Int32.not_le.symm
theorem neg_gt : ∀ x y : Int32, if_icmp.holds .le x y = (true ^^ if_icmp.holds .gt x y) := fun x y => by simp only [if_icmp.holds, Bool.true_xor]; rw [← decide_not]; exact decide_eq_decide.mpr Int32.not_lt.symm
theorem neg_le : ∀ x y : Int32, if_icmp.holds .gt x y = (true ^^ if_icmp.holds .le x y) := fun x y => by simp only [if_icmp.holds, Bool.true_xor]; rw [← decide_not]; exact decide_eq_decide.mpr Int32.not_le.symm
theorem pos_cmp (op : jcmp) : ∀ x y : Int32, if_icmp.holds op x y = (false ^^ if_icmp.holds op x y) := fun x y => by simp
theorem bc_f {op op' : jcmp} {tgt : Nat} {off : Int} {a b : jE} (ha : EI M C k pc p1 a) (hb : EI M C (k + 2) p1 p2 b) (hd : decode M.2.1 p2 = .ok (.if_icmp op' off, 3)) (ht : (p2 : Int) + off = (tgt : Int)) (hn : ∀ x y, if_icmp.holds op' x y = (true ^^ if_icmp.holds op x y)) : BI M C k pc (p2 + 3) tgt (b_cmp op a b) := bi_cmp ha hb hd ht hn
theorem bc_t {op : jcmp} {tgt : Nat} {off : Int} {a b : jE} (ha : EI M C k pc p1 a) (hb : EI M C (k + 2) p1 p2 b) (hd : decode M.2.1 p2 = .ok (.if_icmp op off, 3)) (ht : (p2 : Int) + off = (tgt : Int)) : BI M C k pc tgt (p2 + 3) (b_cmp op a b) := bi_cmp ha hb hd ht (pos_cmp op)
theorem b0_f {op op' : jcmp} {tgt : Nat} {off : Int} {a : jE} (ha : EI M C k pc p1 a) (hd : decode M.2.1 p1 = .ok (.ifCond op' off, 3)) (ht : (p1 : Int) + off = (tgt : Int)) (hn : ∀ x y, if_icmp.holds op' x y = (true ^^ if_icmp.holds op x y)) : BI M C k pc (p1 + 3) tgt (b_cmp op a (x_c (.int 0))) := bi_cmp0 ha hd ht hn
theorem b0_t {op : jcmp} {tgt : Nat} {off : Int} {a : jE} (ha : EI M C k pc p1 a) (hd : decode M.2.1 p1 = .ok (.ifCond op off, 3)) (ht : (p1 : Int) + off = (tgt : Int)) : BI M C k pc tgt (p1 + 3) (b_cmp op a (x_c (.int 0))) := bi_cmp0 ha hd ht (pos_cmp op)
theorem bz_f {tgt : Nat} {off : Int} {a : jE} (ha : EI M C k pc p1 a) (hd : decode M.2.1 p1 = .ok (.ifCond .eq off, 3)) (ht : (p1 : Int) + off = (tgt : Int)) : BI M C k pc (p1 + 3) tgt (b_ofi a) := bi_ofi (neg := true) ha hd ht
theorem bz_t {tgt : Nat} {off : Int} {a : jE} (ha : EI M C k pc p1 a) (hd : decode M.2.1 p1 = .ok (.ifCond .ne off, 3)) (ht : (p1 : Int) + off = (tgt : Int)) : BI M C k pc tgt (p1 + 3) (b_ofi a) := bi_ofi (neg := false) ha hd ht
theorem bl_f {op op' : jcmp} {tgt : Nat} {off : Int} {a b : jE} (ha : EI M C k pc p1 a) (hb : EI M C (k + 2) p1 p2 b) (hd0 : decode M.2.1 p2 = .ok (.lcmp, 1)) (hd : decode M.2.1 (p2 + 1) = .ok (.ifCond op' off, 3)) (ht : ((p2 + 1 : Nat) : Int) + off = (tgt : Int)) (hn : ∀ x y, if_icmp.holds op' x y = (true ^^ if_icmp.holds op x y)) : BI M C k pc (p2 + 4) tgt (b_lcmp op a b) := bi_lcmp ha hb hd0 hd ht hn
theorem bl_t {op : jcmp} {tgt : Nat} {off : Int} {a b : jE} (ha : EI M C k pc p1 a) (hb : EI M C (k + 2) p1 p2 b) (hd0 : decode M.2.1 p2 = .ok (.lcmp, 1)) (hd : decode M.2.1 (p2 + 1) = .ok (.ifCond op off, 3)) (ht : ((p2 + 1 : Nat) : Int) + off = (tgt : Int)) : BI M C k pc tgt (p2 + 4) (b_lcmp op a b) := bi_lcmp ha hb hd0 hd ht (pos_cmp op)
/-- the locals' places that the one-byte instructions name -/
theorem ei_i0 (hd : decode M.2.1 pc = .ok (.iload_n 0, 1)) : EI M C k pc (pc + 1) (x_iloc 0) := ei_iln hd
theorem ei_i1 (hd : decode M.2.1 pc = .ok (.iload_n 1, 1)) : EI M C k pc (pc + 1) (x_iloc 1) := ei_iln hd
theorem ei_i2 (hd : decode M.2.1 pc = .ok (.iload_n 2, 1)) : EI M C k pc (pc + 1) (x_iloc 2) := ei_iln hd
theorem ei_i3 (hd : decode M.2.1 pc = .ok (.iload_n 3, 1)) : EI M C k pc (pc + 1) (x_iloc 3) := ei_iln hd
theorem ei_a0 (hd : decode M.2.1 pc = .ok (.aload_n 0, 1)) : EI M C k pc (pc + 1) (x_aloc 0) := ei_aln hd
theorem ei_a1 (hd : decode M.2.1 pc = .ok (.aload_n 1, 1)) : EI M C k pc (pc + 1) (x_aloc 1) := ei_aln hd
theorem ei_a2 (hd : decode M.2.1 pc = .ok (.aload_n 2, 1)) : EI M C k pc (pc + 1) (x_aloc 2) := ei_aln hd
theorem ei_a3 (hd : decode M.2.1 pc = .ok (.aload_n 3, 1)) : EI M C k pc (pc + 1) (x_aloc 3) := ei_aln hd
theorem ei_l0 (hd : decode M.2.1 pc = .ok (.lload_n 0, 1)) : EI M C k pc (pc + 1) (x_lloc 0) := ei_lln hd
theorem ei_l1 (hd : decode M.2.1 pc = .ok (.lload_n 1, 1)) : EI M C k pc (pc + 1) (x_lloc 1) := ei_lln hd
theorem ei_l2 (hd : decode M.2.1 pc = .ok (.lload_n 2, 1)) : EI M C k pc (pc + 1) (x_lloc 2) := ei_lln hd
theorem ei_l3 (hd : decode M.2.1 pc = .ok (.lload_n 3, 1)) : EI M C k pc (pc + 1) (x_lloc 3) := ei_lln hd
end Rules4
