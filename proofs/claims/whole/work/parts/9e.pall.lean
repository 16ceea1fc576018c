theorem genL_nd {A : AS} (w : WF A) : ∀ n p S, p + n = aNp A → Low A p S → (genL A n p S).Nodup := by
  intro n
  induction n with
  | zero => intro p S _ _; simp [genL]
  | succ n ih =>
    intro p S hp hl
    have hgen : genL A (n + 1) p S = genB A n p S (aNb A) := rfl
    rw [hgen]
    have key : ∀ i, i ≤ aNb A → (genB A n p S i).Nodup := by
      intro i
      induction i with
      | zero => intro _; exact ih (p + 1) S (by omega) (Low_s hl)
      | succ i ihi =>
        intro hi
        rw [genB_s]
        by_cases hel : sElg A p i = true
        · rw [if_pos hel]
          have hpi : aPe A i = p := by
            unfold sElg at hel
            simp only [Bool.and_eq_true, beq_iff_eq] at hel
            exact hel.1
          rw [List.nodup_append]
          refine ⟨ihi (by omega), ih (p + 1) _ (by omega) (Low_or hl (by omega) hpi), fun T hT U hU e => ?_⟩
          subst e
          have hx := (genL_mem w n (p + 1) (S ||| 2 ^ i) T (by omega) (Low_or hl (by omega) hpi)).mp hU
          have hTi : T.testBit i = true := by
            rw [hx.2.1 i (by omega) (by omega), Nat.testBit_or, Nat.testBit_two_pow]; simp
          rcases (genB_mem i).mp hT with h | ⟨b, h1, h2, h3⟩
          · have hy := (genL_mem w n (p + 1) S T (by omega) (Low_s hl)).mp h
            have := hy.2.1 i (by omega) (by omega)
            rw [hl.2 i (by omega) (by omega), hTi] at this
            cases this
          · have hpb : aPe A b = p := by
              unfold sElg at h2
              simp only [Bool.and_eq_true, beq_iff_eq] at h2
              exact h2.1
            have hy := (genL_mem w n (p + 1) (S ||| 2 ^ b) T (by omega) (Low_or hl (by omega) hpb)).mp h3
            have := hy.2.1 i (by omega) (by omega)
            rw [Nat.testBit_or, Nat.testBit_two_pow, hl.2 i (by omega) (by omega), hTi] at this
            have : b = i := by simpa using this.symm
            omega
        · rw [if_neg hel, List.append_nil]
          exact ihi (by omega)
    exact key _ (Nat.le_refl _)
theorem insP_hi (p : Nat → Bool) : ∀ n i, insP p n ≤ i → i < n → p i = true := by
  intro n
  induction n with
  | zero => intro i _ h; omega
  | succ n ih =>
    intro i h1 h2
    simp only [insP] at h1
    split at h1
    · rename_i q
      by_cases e : i = n
      · rw [e]; exact q
      · exact ih i h1 (by omega)
    · omega
theorem insP_lo (p : Nat → Bool) : ∀ n, 0 < insP p n → p (insP p n - 1) = false := by
  intro n
  induction n with
  | zero => intro h; simp [insP] at h
  | succ n ih =>
    intro h
    simp only [insP] at h ⊢
    by_cases q : p n = true
    · simp only [q, if_true] at h ⊢; exact ih h
    · simp only [q] at h ⊢; simpa using q
theorem insS_srt {l : List Nat} {S : Nat} (hl : l.Pairwise (· < ·)) (hS : S ∉ l) : (insS l S).Pairwise (· < ·) := by
  unfold insS insL
  have hle := insP_le (fun i => decide (S < l.getD i 0)) l.length
  have hhi := insP_hi (fun i => decide (S < l.getD i 0)) l.length
  have hlo := insP_lo (fun i => decide (S < l.getD i 0)) l.length
  generalize insP (fun i => decide (S < l.getD i 0)) l.length = k at *
  have hg : ∀ i (h : i < l.length), l.getD i 0 = l[i] := fun i h => by rw [List.getD_eq_getElem?_getD, List.getElem?_eq_getElem h]; rfl
  have below : ∀ x ∈ l.take k, x < S := by
    intro x hx
    obtain ⟨i, hi, e⟩ := List.mem_iff_getElem.mp hx
    rw [List.length_take] at hi
    rw [List.getElem_take] at e
    have hk : 0 < k := by omega
    have h1 := hlo hk
    simp only [decide_eq_false_iff_not] at h1
    rw [hg (k - 1) (by omega)] at h1
    have h2 : l[k - 1] ≠ S := fun q => hS (q ▸ List.getElem_mem _)
    by_cases e2 : i = k - 1
    · subst e2; omega
    · have := List.pairwise_iff_getElem.mp hl i (k - 1) (by omega) (by omega) (by omega)
      omega
  have above : ∀ x ∈ l.drop k, S < x := by
    intro x hx
    obtain ⟨i, hi, e⟩ := List.mem_iff_getElem.mp hx
    rw [List.length_drop] at hi
    rw [List.getElem_drop] at e
    have := hhi (k + i) (by omega) (by omega)
    simp only [decide_eq_true_eq] at this
    rw [hg (k + i) (by omega), e] at this
    exact this
  rw [List.pairwise_append]
  refine ⟨hl.sublist (List.take_sublist k l), ?_, fun a ha b hb => ?_⟩
  · rw [List.pairwise_cons]
    exact ⟨above, hl.sublist (List.drop_sublist k l)⟩
  · rcases List.mem_cons.mp hb with q | q
    · rw [q]; exact below a ha
    · have := below a ha
      have := above b q
      omega
theorem insS_memI {l : List Nat} {S x : Nat} : x ∈ insS l S ↔ x = S ∨ x ∈ l := by
  constructor
  · exact insS_mem
  · rintro (q | q)
    · rw [q]; exact insL_mem2.1
    · exact insL_mem2.2 x q
theorem gtF_fold {A : AS} : ∀ (L l : List Nat), l.Pairwise (· < ·) → L.Nodup → (∀ x ∈ L, x ∉ l) → (L.foldl (gtF A) l).Pairwise (· < ·) ∧ ∀ x, x ∈ L.foldl (gtF A) l ↔ x ∈ l ∨ (x ∈ L ∧ sStd A x = true) := by
  intro L
  induction L with
  | nil => intro l hl _ _; exact ⟨hl, fun x => by simp⟩
  | cons S L ih =>
    intro l hl hd hn
    rw [List.foldl_cons]
    rw [List.nodup_cons] at hd
    have hSl := hn S (by simp)
    by_cases hst : sStd A S = true
    · have hg : gtF A l S = insS l S := by unfold gtF; rw [if_pos hst]
      rw [hg]
      obtain ⟨i1, i2⟩ := ih (insS l S) (insS_srt hl hSl) hd.2 (fun x hx q => by
        rcases insS_mem q with z | z
        · subst z; exact hd.1 hx
        · exact hn x (by simp [hx]) z)
      refine ⟨i1, fun x => ?_⟩
      rw [i2, insS_memI]
      constructor
      · rintro ((q | q) | q)
        · right; rw [q]; exact ⟨by simp, hst⟩
        · exact Or.inl q
        · exact Or.inr ⟨by simp [q.1], q.2⟩
      · rintro (q | ⟨q1, q2⟩)
        · exact Or.inl (Or.inr q)
        · rcases List.mem_cons.mp q1 with z | z
          · exact Or.inl (Or.inl z)
          · exact Or.inr ⟨z, q2⟩
    · have hg : gtF A l S = l := by unfold gtF; rw [if_neg hst]
      rw [hg]
      obtain ⟨i1, i2⟩ := ih l hl hd.2 (fun x hx => hn x (by simp [hx]))
      refine ⟨i1, fun x => ?_⟩
      rw [i2]
      constructor
      · rintro (q | q)
        · exact Or.inl q
        · exact Or.inr ⟨by simp [q.1], q.2⟩
      · rintro (q | ⟨q1, q2⟩)
        · exact Or.inl q
        · rcases List.mem_cons.mp q1 with z | z
          · subst z; exact absurd q2 hst
          · exact Or.inr ⟨z, q2⟩
theorem Low0 (A : AS) : Low A 0 0 := ⟨Nat.two_pow_pos _, fun b _ _ => Nat.zero_testBit b⟩
theorem gen_mem {A : AS} (w : WF A) {T : Nat} : T ∈ genL A (aNp A) 0 0 ↔ T < 2 ^ aNb A ∧ sMat A T ∧ ∀ b, b < aNb A → T.testBit b = true → sElg A (aPe A b) b = true := by
  rw [genL_mem w _ _ _ _ (by omega) (Low0 A)]
  constructor
  · intro h
    exact ⟨h.1, fun b c hb hc t1 t2 e => h.2.2.2 b c hb hc (Nat.zero_le _) t1 t2 e, fun b hb ht => h.2.2.1 b hb (Nat.zero_le _) ht⟩
  · rintro ⟨h1, h2, h3⟩
    exact ⟨h1, fun b _ q => absurd q (Nat.not_lt_zero _), fun b hb _ ht => h3 b hb ht, fun b c hb hc _ t1 t2 e => h2 b c hb hc t1 t2 e⟩
theorem sBnd_mat {A : AS} {S b : Nat} (hm : sMat A S) (hb : b < aNb A) (ht : S.testBit b = true) : sBnd A S (aPe A b) = some b := by
  refine fst1_of hb (by simp [ht]) fun m hm' => ?_
  cases h1 : S.testBit m with
  | false => rfl
  | true =>
    by_cases e : aPe A m = aPe A b
    · have := hm m b (by omega) hb h1 ht e
      omega
    · simp [e]
/-- FREE MATCHINGS are gone through -/
theorem free_elg {A : AS} (w : WF A) {S b : Nat} (hm : sMat A S) (hf : sFree A S = true) (hb : b < aNb A) (ht : S.testBit b = true) : sElg A (aPe A b) b = true := by
  have hp := (w.2.2.1.2.1 b hb).1
  unfold sFree at hf
  simp only [Bool.and_eq_true, Option.isNone_iff_eq_none] at hf
  have h1 := fst1_none hf.1.1 (aPe A b) hp
  unfold sElg
  rw [beq_self_eq_true, Bool.true_and]
  cases hc : sCpl A (aPe A b) with
  | some c => simp
  | none =>
    rw [hc] at h1
    have hr : sRnk A S (aPe A b) = sPlc A b := by unfold sRnk; rw [sBnd_mat hm hb ht]
    rw [hr] at h1
    cases hpl : sPlc A b with
    | none => rw [hpl] at h1; simp at h1
    | some k => simp
theorem std_ok {A : AS} (w : WF A) {S : Nat} (hS : S < 2 ^ aNb A) (h : sStd A S = true) : sMat A S ∧ sFree A S = true := by
  unfold sStd sJdg at h
  by_cases c1 : popN 32 (sPpl A S) ≠ popN 32 S
  · rw [if_pos c1] at h; simp at h
  · rw [if_neg c1] at h
    by_cases c2 : sFree A S = false
    · rw [if_pos c2] at h; simp at h
    · exact ⟨(sMat_pop w hS).mp (by simpa using c1), by simpa using c2⟩
/-- ALL, ascending -/
theorem sAllR_srt {A : AS} (w : WF A) : (sAllR A).Pairwise (· < ·) := (gtF_fold _ [] (by simp) (genL_nd w _ _ _ (by omega) (Low0 A)) (fun x _ q => by cases q)).1
theorem sAllR_mem {A : AS} (w : WF A) {S : Nat} : S ∈ sAllR A ↔ S < 2 ^ aNb A ∧ sStd A S = true := by
  have h := (gtF_fold (A := A) (genL A (aNp A) 0 0) [] (by simp) (genL_nd w _ _ _ (by omega) (Low0 A)) (fun x _ q => by cases q)).2 S
  have h' : S ∈ sAllR A ↔ S ∈ genL A (aNp A) 0 0 ∧ sStd A S = true := by
    unfold sAllR
    rw [h]
    constructor
    · rintro (q | q)
      · cases q
      · exact q
    · exact Or.inr
  rw [h', gen_mem w]
  constructor
  · rintro ⟨q1, q2⟩; exact ⟨q1.1, q2⟩
  · rintro ⟨q1, q2⟩
    obtain ⟨m1, m2⟩ := std_ok w q1 q2
    exact ⟨⟨q1, m1, fun b hb ht => free_elg w m1 m2 hb ht⟩, q2⟩
theorem sAllR_nd {A : AS} (w : WF A) : (sAllR A).Nodup := (sAllR_srt w).imp (fun h e => by subst e; exact Nat.lt_irrefl _ h)
theorem o_M_steps' {A : AS} {tx : List Nat} {rw : List Int32} {h : jHp} (r : RMX A tx rw h) (x y : Int32) : ∃ h', f_M_steps [.ref 98, .int x, .int y] h = some (some (.int (vSteps A x y)), h') ∧ RMX A tx rw h' ∧ Fr WM h h' :=
  o_M_steps r (fun S hS hs => (sAllR_mem r.1.2.1).mpr ⟨hS, hs⟩) (sAllR_nd r.1.2.1) x y

-- nearest ones
theorem nr_fold {A : AS} : ∀ (L : List Nat) (o : Option (Nat × Nat)) (P : Nat → Prop), (∀ q, o = some q → P q.2 ∧ sFree A q.2 = true ∧ q.1 = sOfN A q.2 ∧ ∀ T, P T → sFree A T = true → q.1 < sOfN A T ∨ (q.1 = sOfN A T ∧ q.2 ≤ T)) → (o = none → ∀ T, P T → sFree A T = false) →
    (∀ q, L.foldl (nrF A) o = some q → (P q.2 ∨ q.2 ∈ L) ∧ sFree A q.2 = true ∧ q.1 = sOfN A q.2 ∧ ∀ T, (P T ∨ T ∈ L) → sFree A T = true → q.1 < sOfN A T ∨ (q.1 = sOfN A T ∧ q.2 ≤ T)) ∧ (L.foldl (nrF A) o = none → ∀ T, (P T ∨ T ∈ L) → sFree A T = false) := by
  intro L
  induction L with
  | nil =>
    intro o P h1 h2
    refine ⟨fun q hq => ?_, fun hq T hT => ?_⟩
    · obtain ⟨a, b, c, d⟩ := h1 q hq
      exact ⟨Or.inl a, b, c, fun T hT => d T (by simpa using hT)⟩
    · exact h2 hq T (by simpa using hT)
  | cons S L ih =>
    intro o P h1 h2
    rw [List.foldl_cons]
    have hX := ih (nrF A o S) (fun T => P T ∨ T = S) ?_ ?_
    · obtain ⟨i1, i2⟩ := hX
      refine ⟨fun q hq => ?_, fun hq T hT => i2 hq T ?_⟩
      · obtain ⟨a, b, c, d⟩ := i1 q hq
        refine ⟨?_, b, c, fun T hT => d T ?_⟩
        · rcases a with (a | a) | a
          · exact Or.inl a
          · right; rw [a]; simp
          · right; simp [a]
        · rcases hT with z | z
          · exact Or.inl (Or.inl z)
          · rcases List.mem_cons.mp z with z | z
            · exact Or.inl (Or.inr z)
            · exact Or.inr z
      · rcases hT with z | z
        · exact Or.inl (Or.inl z)
        · rcases List.mem_cons.mp z with z | z
          · exact Or.inl (Or.inr z)
          · exact Or.inr z
    · intro q hq
      unfold nrF at hq
      by_cases hf : sFree A S = true
      · rw [if_pos hf] at hq
        cases o with
        | none =>
          simp only [Option.some.injEq] at hq
          subst hq
          refine ⟨Or.inr rfl, hf, rfl, fun T hT hfT => ?_⟩
          rcases hT with z | z
          · rw [h2 rfl T z] at hfT; cases hfT
          · subst z; exact Or.inr ⟨rfl, Nat.le_refl _⟩
        | some p =>
          obtain ⟨a, b, c, d⟩ := h1 p rfl
          simp only at hq
          by_cases hc : p.1 < sOfN A S ∨ (sOfN A S = p.1 ∧ p.2 < S)
          · rw [if_pos hc] at hq
            simp only [Option.some.injEq] at hq
            subst hq
            refine ⟨Or.inl a, b, c, fun T hT hfT => ?_⟩
            rcases hT with z | z
            · exact d T z hfT
            · subst z
              rcases hc with hc | hc
              · exact Or.inl hc
              · exact Or.inr ⟨hc.1.symm, by omega⟩
          · rw [if_neg hc] at hq
            simp only [Option.some.injEq] at hq
            subst hq
            refine ⟨Or.inr rfl, hf, rfl, fun T hT hfT => ?_⟩
            simp only
            rcases hT with z | z
            · rcases d T z hfT with y | y
              · left; omega
              · by_cases e : sOfN A S = p.1
                · right; omega
                · left; omega
            · subst z; exact Or.inr ⟨rfl, Nat.le_refl _⟩
      · rw [if_neg hf] at hq
        obtain ⟨a, b, c, d⟩ := h1 q hq
        refine ⟨Or.inl a, b, c, fun T hT hfT => ?_⟩
        rcases hT with z | z
        · exact d T z hfT
        · subst z; exact absurd hfT hf
    · intro hq T hT
      unfold nrF at hq
      by_cases hf : sFree A S = true
      · rw [if_pos hf] at hq
        cases o with
        | none => cases hq
        | some p => simp only at hq; split at hq <;> cases hq
      · rw [if_neg hf] at hq
        rcases hT with z | z
        · exact h2 hq T z
        · subst z; simpa using hf
theorem sNr_spec {A : AS} : (∀ q, sNr A = some q → q.2 ∈ genL A (aNp A) 0 0 ∧ sFree A q.2 = true ∧ q.1 = sOfN A q.2 ∧ ∀ T, T ∈ genL A (aNp A) 0 0 → sFree A T = true → q.1 < sOfN A T ∨ (q.1 = sOfN A T ∧ q.2 ≤ T)) ∧ (sNr A = none → ∀ T, T ∈ genL A (aNp A) 0 0 → sFree A T = false) := by
  obtain ⟨h1, h2⟩ := nr_fold (A := A) (genL A (aNp A) 0 0) none (fun _ => False) (fun q hq => by cases hq) (fun _ T hT => hT.elim)
  refine ⟨fun q hq => ?_, fun hq T hT => h2 hq T (Or.inr hT)⟩
  obtain ⟨a, b, c, d⟩ := h1 q hq
  exact ⟨a.resolve_left id, b, c, fun T hT => d T (Or.inr hT)⟩
theorem nfo_const {σ : Type} {f : Nat → σ → σ} {n : Nat} {s : σ} (h : ∀ i, i < n → f i s = s) : nfo f n s = s := by
  induction n with
  | zero => rfl
  | succ n ih => simp only [nfo]; rw [ih fun i hi => h i (by omega)]; exact h n (by omega)
theorem sTk_0 (A : AS) (f : Nat) : sTk A f 0 = 0 := by
  have h1 : sGat (sOrd A f) 0 = 0 := nfo_const fun i _ => by simp
  unfold sTk sTkM
  rw [h1]
  exact sSpr_0 _
theorem sBnd_0 (A : AS) (p : Nat) : sBnd A 0 p = none := fst1_no fun m _ => by simp
theorem sFree_0 (A : AS) : sFree A 0 = true := by
  unfold sFree
  have h1 : sF1 A 0 = none := fst1_no fun p _ => by simp [sRnk, sBnd_0]
  have h2 : sF2 A 0 = none := fst1_no fun c _ => by simp [sRkc, sBnd_0]
  have h3 : sF3 A 0 = none := fst1_no fun f _ => by simp [Nat.zero_and, sTk_0]
  rw [h1, h2, h3]; rfl
theorem sNr_some {A : AS} (w : WF A) : sNr A ≠ none := by
  intro h
  have := sNr_spec.2 h 0 ((gen_mem w).mpr ⟨Nat.two_pow_pos _, fun b c _ _ t => (by simp at t), fun b _ t => by simp at t⟩)
  rw [sFree_0] at this
  cases this
theorem o_M_near' {A : AS} {tx : List Nat} {rw : List Int32} {h : jHp} (r : RMX A tx rw h) : ∃ h', f_M_near [.ref 98] h = some (some (.int (vNear A).1), h') ∧ RMX A tx (vNear A).2 h' ∧ Fr WM h h' := o_M_near r (sNr_some r.1.2.1)
