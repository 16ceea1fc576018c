/-! jumps that were led on, rows copied, the place of a sign in a text -/
section Rules5
variable {M : jMs} {C : jC} {k pc p1 p2 p3 p4 p5 tT tF : Nat} {tg : Nat → Nat}
theorem bi_gt {c : jB} {off : Int} {tgt : Nat} (hc : BI M C k pc tT tF c) (hd : decode M.2.1 tT = .ok (.goto off, 3)) (ht : (tT : Int) + off = (tgt : Int)) : BI M C k pc tgt tF c := by
  intro L h v L' h' he
  obtain ⟨m1, m2, K1⟩ := hc _ _ _ _ _ he
  refine ⟨m1, m2, fun hG stk hk c1 c2 K => K1 hG stk hk c1 c2 ?_⟩
  cases v with
  | true => exact ww_goto hG hd ht K
  | false => exact K
theorem bi_gf {c : jB} {off : Int} {tgt : Nat} (hc : BI M C k pc tT tF c) (hd : decode M.2.1 tF = .ok (.goto off, 3)) (ht : (tF : Int) + off = (tgt : Int)) : BI M C k pc tT tgt c := by
  intro L h v L' h' he
  obtain ⟨m1, m2, K1⟩ := hc _ _ _ _ _ he
  refine ⟨m1, m2, fun hG stk hk c1 c2 K => K1 hG stk hk c1 c2 ?_⟩
  cases v with
  | true => exact K
  | false => exact ww_goto hG hd ht K
theorem si_go0 {l : Nat} (hl : l ≠ 0) (ht : tg l = pc) : SI M C tg pc p2 (s_go l) := by
  intro L h v L' h' he
  cases he
  refine ⟨Nat.le_refl _, Nat.le_refl _, fun hG c1 c2 K => ?_⟩
  match l, hl, K, ht with
  | q + 1, _, K, ht => subst ht; exact K
theorem ww_copy {idx a b : Nat} {sp dp n : Int32} {L stk : List Value} {h h' : jHp} (hG : GOK M C) (hd : decode M.2.1 pc = .ok (.invokestatic idx, 3)) (hw : Jvm.Cond.methodLink M.1 idx arraycopyName ∈ jtbl) (hD : 1 ≤ M.2.2.2.1) (hΛ : 40 ≤ M.2.2.2.2.1) (hstk : j_ws stk ≤ 8) (hc : j_copy h [.ref a, .int sp, .ref b, .int dp, .int n] = some h') (K : WW M C (pc + 3) L stk h') : WW M C pc L (.int n :: .int dp :: .ref b :: .int sp :: .ref a :: stk) h := by
  obtain ⟨X, ⟨p, l, e, R, s, m, args, below, meth, c, Q⟩, n0, s0, hE, rv⟩ := C
  obtain ⟨hx, hb, hml, hown, hts, hK, hin, hrm, hret⟩ := hG
  simp only [j_copy] at hc
  split at hc
  · rename_i hcond
    obtain ⟨ta, tb, hsp, hdp, hn, hs4, hs5⟩ := hcond
    cases hc
    intro ls H locs a1 a2 a3 a4 a5
    obtain ⟨z1, z2, z3, z4⟩ := hrm
    have nn : ∀ z : Int32, 0 ≤ z → z.toInt = (z.toNatClampNeg : Int) := by
      intro z hz
      have hz0 : (0 : Int) ≤ z.toInt := by simpa using Int32.le_iff_toInt_le.mp hz
      show z.toInt = ((z.toInt.toNat : Nat) : Int)
      omega
    have g0 := a2.arr ta (by decide) (by decide)
    have g1 := a2.arr tb (by decide) (by decide)
    have e0 : jel X h 1 a = fun j => .int (hI h a j) := rfl
    have e1 : jel X h 1 b = fun j => .int (hI h b j) := rfl
    rw [e0] at g0
    rw [e1] at g1
    obtain ⟨-, k0, hk0, cm0, hkk0⟩ := (hK.1.2 0 _ rfl).1 (hT h a).2 (fun j => .int (hI h a j))
    obtain ⟨-, k1, hk1, cm1, hkk1⟩ := (hK.1.2 0 _ rfl).1 (hT h b).2 (fun j => .int (hI h b j))
    intro T hT X'
    subst hT
    obtain ⟨vm', X2, step⟩ := X'.arraycopy hx hown (hts _ hw) (hts _ w_ac1) (hts _ w_ac2) (hts _ w_ac3) (src := X.1 + a) (dst := X.1 + b) (srcPos := sp) (destPos := dp) (n := n) g0 g1
      (fun _ q => by cases q) (fun _ q => by cases q) (fun q => by cases q) (fun q => by cases q) hk0 hk1 hkk0 hkk1 (by simp [refKind]) (Int32.not_lt.mpr hsp) (Int32.not_lt.mpr hdp) (Int32.not_lt.mpr hn)
      (by rw [nn sp hsp, nn n hn, arrV_size]; omega) (by rw [nn dp hdp, nn n hn, arrV_size]; omega)
      (fun vm₁ _ i hi => by
        have e : (arrV (X.2.2.2 1) (hT h a).2 (fun j => Value.int (hI h a j))).slots.getD (sp.toNatClampNeg + i) .null = .int (hI h a (sp.toNatClampNeg + i)) := by
          rw [Array.getD_eq_getD_getElem?, arrV_read _ _ (by omega)]
          rfl
        refine ⟨?_, ?_⟩
        · rw [e]; rfl
        · rw [e]; exact trivial)
      (g := F0 m pc ls (.int n :: .int dp :: .ref (X.1 + b) :: .int sp :: .ref (X.1 + a) :: stk.map (mv X.1))) rfl (by rw [hml]; exact a1.1) (rest := stk.map (mv X.1)) rfl (by rw [hb]; exact hd) (by omega) (by
        have hq : nativeFrameWords "java/lang/System" "arraycopy" 5 ≤ 20 := by decide
        have hr := j_sum X.1 stk
        unfold j_ws at hstk
        show 2 * 0 + _ + _ ≤ _
        rw [hr]
        omega)
    have ec : copied (arrV (X.2.2.2 1) (hT h a).2 (fun j => Value.int (hI h a j))) (arrV (X.2.2.2 1) (hT h b).2 (fun j => Value.int (hI h b j))) sp dp n = arrV (X.2.2.2 1) (hT h b).2 (fun j => Value.int (va_cpy (hI h a) (hI h b) sp.toNatClampNeg dp.toNatClampNeg n.toNatClampNeg j)) := va_copied (fun z => .int z) (X.2.2.2 1) (X.2.2.2 1) (hI h a) (hI h b) hs4
    rw [ec] at X2 step
    have hlt : X.1 + b < T.heap.size := (Array.getElem?_eq_some_iff.mp g1).1
    have hheap : ((T.setVm vm').setCell (X.1 + b) (arrV (X.2.2.2 1) (hT h b).2 (fun j => Value.int (va_cpy (hI h a) (hI h b) sp.toNatClampNeg dp.toNatClampNeg n.toNatClampNeg j)))).heap = T.heap.setIfInBounds (X.1 + b) (arrV (X.2.2.2 1) (hT h b).2 (fun j => Value.int (va_cpy (hI h a) (hI h b) sp.toNatClampNeg dp.toNatClampNeg n.toNatClampNeg j))) := rfl
    have hb0 := (a2.2.2.2 b (by omega)).1
    have hr : HRel X (hCopy h a sp.toNatClampNeg b dp.toNatClampNeg n.toNatClampNeg) (T.heap.setIfInBounds (X.1 + b) (arrV (X.2.2.2 1) (hT h b).2 (fun j => Value.int (va_cpy (hI h a) (hI h b) sp.toNatClampNeg dp.toNatClampNeg n.toNatClampNeg j)))) := by
      refine a2.upd b rfl rfl (fun q hq i => ?_) (fun _ _ _ => rfl) (fun _ _ _ => rfl) (by simp) (fun q hq => by simp [Array.getElem?_setIfInBounds, Ne.symm hq]) hb0 (Or.inl ?_)
      · simp [hCopy, hI, hq]
      · have et : hT (hCopy h a sp.toNatClampNeg b dp.toNatClampNeg n.toNatClampNeg) b = hT h b := rfl
        rw [et, tb]
        refine ⟨by decide, ?_⟩
        rw [Array.getElem?_setIfInBounds]
        simp only [if_true, hlt]
        congr 2
        funext j
        simp only [jel, hCopy, hI, va_cpy, true_and]
        simp
    obtain ⟨t, q1, q2⟩ := K ls _ (locs ++ _) a1 hr (fun q hq => by
      rcases List.mem_append.mp hq with hq | hq
      · exact a3 q hq
      · obtain ⟨z, -, hz⟩ := List.mem_map.mp hq
        rw [← hz]
        show X.1 < X.1 + b
        omega) a4 a5 _ hheap X2
    exact ⟨t, step t q1, q2⟩
  · cases hc
theorem j_copy_ref {h h' : jHp} {vs : List Value} (hc : j_copy h vs = some h') : ∃ a sp b dp n, vs = [.ref a, .int sp, .ref b, .int dp, .int n] ∧ hN h' = hN h ∧ hS h' = hS h := by
  unfold j_copy at hc
  split at hc
  · split at hc
    · cases hc
      exact ⟨_, _, _, _, _, rfl, rfl, rfl⟩
    · cases hc
  · cases hc
theorem si_copy {idx n : Nat} {as : jS → Option (List Value × jS)} (has : LI M C 0 pc p1 n as) (hd : decode M.2.1 p1 = .ok (.invokestatic idx, 3)) (hw : Jvm.Cond.methodLink M.1 idx arraycopyName ∈ jtbl) (hD : 1 ≤ M.2.2.2.1) (hΛ : 40 ≤ M.2.2.2.2.1) : SI M C tg pc (p1 + 3) (s_copy as) := by
  intro L h v L' h' he
  simp only [s_copy] at he
  obtain ⟨vs, ⟨L1, h1⟩, e1, he⟩ := jb_eq he
  obtain ⟨hlen, m1, m2, K1⟩ := has _ _ _ _ _ e1
  cases hf : j_copy h1 vs with
  | none => simp only [hf] at he; cases he
  | some q =>
    simp only [hf] at he
    cases he
    obtain ⟨a, sp, b, dp, nn, rfl, g1, g2⟩ := j_copy_ref hf
    exact ⟨by omega, by omega, fun hG c1 c2 K => K1 hG [] (Nat.le_refl _) (by omega) (by omega) (ww_copy hG hd hw hD hΛ (by simp [j_ws]) hf K)⟩
end Rules5
section Rules6
variable {M : jMs} {C : jC} {k pc p1 p2 p3 p4 p5 tT tF : Nat} {tg : Nat → Nat}
theorem ei_max {idx : Nat} {a b : jE} (ha : EI M C k pc p1 a) (hb : EI M C (k + 2) p1 p2 b) (hd : decode M.2.1 p2 = .ok (.invokestatic idx, 3)) (hl : Jvm.Cond.methodLink M.1 idx Lib.Math.max.name ∈ jtbl) (hD : 1 ≤ M.2.2.2.1) (hΛ : 40 ≤ M.2.2.2.2.1) (hk8 : k ≤ 20) : EI M C k pc (p2 + 3) (x_bin o_max a b) := by
  intro L h v L' h' he
  simp only [x_bin] at he
  obtain ⟨u, ⟨L1, h1⟩, e1, he1⟩ := jb_eq he
  clear he
  obtain ⟨w, ⟨L2, h2⟩, e2, he⟩ := jb_eq he1
  clear he1
  obtain ⟨m1, m2, K1⟩ := ha _ _ _ _ _ e1
  obtain ⟨n1, n2, K2⟩ := hb _ _ _ _ _ e2
  cases u <;> cases w <;> simp only [o_max, reduceCtorEq] at he
  rename_i x y
  cases he
  refine ⟨Nat.le_trans m1 n1, Nat.le_trans m2 n2, fun hG stk hk c1 c2 K => K1 hG stk hk (Nat.le_trans n1 c1) (Nat.le_trans n2 c2) (K2 hG (.int x :: stk) (Nat.le_trans (j_ws_cons _ stk) (by omega)) c1 c2 ?_)⟩
  obtain ⟨X, ⟨p, l, e, R, s, m, args, below, meth, c, Q⟩, n0, s0, hE, rv⟩ := C
  obtain ⟨hx, hcb, hml, hown, hts, hK, hin, hrm, hret⟩ := hG
  intro ls H locs a1 a2 a3 a4 a5
  obtain ⟨z1, z2, z3, z4⟩ := hrm
  have hsum := j_sum X.1 stk
  simp only at c1 c2
  unfold j_ws at hk
  exact va_mmax hx hcb (by rw [hml]; exact a1.1.symm) hown (hts _ hl) (hts _ w_mx2) (hts _ w_mx3) (hts _ w_mx4) (by omega) (by rw [hsum]; omega) (by omega) (by omega) hd (K ls H locs a1 a2 a3 a4 a5)
theorem ei_min {idx : Nat} {a b : jE} (ha : EI M C k pc p1 a) (hb : EI M C (k + 2) p1 p2 b) (hd : decode M.2.1 p2 = .ok (.invokestatic idx, 3)) (hl : Jvm.Cond.methodLink M.1 idx Lib.Math.min.name ∈ jtbl) (hD : 1 ≤ M.2.2.2.1) (hΛ : 40 ≤ M.2.2.2.2.1) (hk8 : k ≤ 20) : EI M C k pc (p2 + 3) (x_bin o_min a b) := by
  intro L h v L' h' he
  simp only [x_bin] at he
  obtain ⟨u, ⟨L1, h1⟩, e1, he1⟩ := jb_eq he
  clear he
  obtain ⟨w, ⟨L2, h2⟩, e2, he⟩ := jb_eq he1
  clear he1
  obtain ⟨m1, m2, K1⟩ := ha _ _ _ _ _ e1
  obtain ⟨n1, n2, K2⟩ := hb _ _ _ _ _ e2
  cases u <;> cases w <;> simp only [o_min, reduceCtorEq] at he
  rename_i x y
  cases he
  refine ⟨Nat.le_trans m1 n1, Nat.le_trans m2 n2, fun hG stk hk c1 c2 K => K1 hG stk hk (Nat.le_trans n1 c1) (Nat.le_trans n2 c2) (K2 hG (.int x :: stk) (Nat.le_trans (j_ws_cons _ stk) (by omega)) c1 c2 ?_)⟩
  obtain ⟨X, ⟨p, l, e, R, s, m, args, below, meth, c, Q⟩, n0, s0, hE, rv⟩ := C
  obtain ⟨hx, hcb, hml, hown, hts, hK, hin, hrm, hret⟩ := hG
  intro ls H locs a1 a2 a3 a4 a5
  obtain ⟨z1, z2, z3, z4⟩ := hrm
  have hsum := j_sum X.1 stk
  simp only at c1 c2
  unfold j_ws at hk
  exact va_mmin hx hcb (by rw [hml]; exact a1.1.symm) hown (hts _ hl) (hts _ w_mn2) (hts _ w_mx3) (hts _ w_mn4) (by omega) (by rw [hsum]; omega) (by omega) (by omega) hd (K ls H locs a1 a2 a3 a4 a5)
end Rules6
section Rules7
variable {M : jMs} {C : jC} {p1 : Nat}
theorem ops_i0 (hd : decode M.2.1 p1 = .ok (.istore_n 0, 1)) (hn : 0 < M.2.2.1) : OPS M C p1 (p1 + 1) 0 j_isi := ops_in hd hn
theorem ops_i1 (hd : decode M.2.1 p1 = .ok (.istore_n 1, 1)) (hn : 1 < M.2.2.1) : OPS M C p1 (p1 + 1) 1 j_isi := ops_in hd hn
theorem ops_i2 (hd : decode M.2.1 p1 = .ok (.istore_n 2, 1)) (hn : 2 < M.2.2.1) : OPS M C p1 (p1 + 1) 2 j_isi := ops_in hd hn
theorem ops_i3 (hd : decode M.2.1 p1 = .ok (.istore_n 3, 1)) (hn : 3 < M.2.2.1) : OPS M C p1 (p1 + 1) 3 j_isi := ops_in hd hn
theorem ops_l0 (hd : decode M.2.1 p1 = .ok (.lstore_n 0, 1)) (hn : 0 + 1 < M.2.2.1) : OPS M C p1 (p1 + 1) 0 j_isl := ops_ln hd hn
theorem ops_l1 (hd : decode M.2.1 p1 = .ok (.lstore_n 1, 1)) (hn : 1 + 1 < M.2.2.1) : OPS M C p1 (p1 + 1) 1 j_isl := ops_ln hd hn
theorem ops_l2 (hd : decode M.2.1 p1 = .ok (.lstore_n 2, 1)) (hn : 2 + 1 < M.2.2.1) : OPS M C p1 (p1 + 1) 2 j_isl := ops_ln hd hn
theorem ops_l3 (hd : decode M.2.1 p1 = .ok (.lstore_n 3, 1)) (hn : 3 + 1 < M.2.2.1) : OPS M C p1 (p1 + 1) 3 j_isl := ops_ln hd hn
theorem ops_a0 (hd : decode M.2.1 p1 = .ok (.astore_n 0, 1)) (hn : 0 < M.2.2.1) : OPS M C p1 (p1 + 1) 0 j_isa := ops_an hd hn
theorem ops_a1 (hd : decode M.2.1 p1 = .ok (.astore_n 1, 1)) (hn : 1 < M.2.2.1) : OPS M C p1 (p1 + 1) 1 j_isa := ops_an hd hn
theorem ops_a2 (hd : decode M.2.1 p1 = .ok (.astore_n 2, 1)) (hn : 2 < M.2.2.1) : OPS M C p1 (p1 + 1) 2 j_isa := ops_an hd hn
theorem ops_a3 (hd : decode M.2.1 p1 = .ok (.astore_n 3, 1)) (hn : 3 < M.2.2.1) : OPS M C p1 (p1 + 1) 3 j_isa := ops_an hd hn
end Rules7
