/-! the Walk goes through all that stand -/
theorem asc_ext : ∀ {l m : List Nat}, l.Pairwise (· < ·) → m.Pairwise (· < ·) → (∀ x, x ∈ l ↔ x ∈ m) → l = m := by
  intro l
  induction l with
  | nil =>
    intro m _ _ h
    cases m with
    | nil => rfl
    | cons b m => have := (h b).mpr List.mem_cons_self; cases this
  | cons a l ih =>
    intro m hl hm h
    cases m with
    | nil => have := (h a).mp List.mem_cons_self; cases this
    | cons b m =>
      obtain ⟨l1, l2⟩ := List.pairwise_cons.mp hl
      obtain ⟨m1, m2⟩ := List.pairwise_cons.mp hm
      have e : a = b := by
        have h1 := (h a).mp List.mem_cons_self
        have h2 := (h b).mpr List.mem_cons_self
        rcases List.mem_cons.mp h1 with q | q
        · exact q
        · rcases List.mem_cons.mp h2 with z | z
          · exact z.symm
          · have := m1 a q
            have := l1 b z
            omega
      subst e
      congr 1
      refine ih l2 m2 fun x => ?_
      have := h x
      simp only [List.mem_cons] at this
      constructor
      · intro q
        rcases this.mp (Or.inr q) with z | z
        · subst z; have := l1 x q; omega
        · exact z
      · intro q
        rcases this.mpr (Or.inr q) with z | z
        · subst z; have := m1 x q; omega
        · exact z
theorem lvL_free {A : AS} (w : WF A) {mv : Nat → Nat} {T b : Nat} (mT : sMat A T) (fT : sFree (aMv A mv) T = true) (hb : b < aNb A) (ht : T.testBit b = true) : lvP A b = true := by
  have hbn : sBnd A T (aPe A b) = some b := (sBnd_iff mT).mpr ⟨hb, ht, rfl⟩
  have hpe := (w.2.2.1.2.1 b hb).1
  unfold sFree at fT
  rw [Bool.and_eq_true, Bool.and_eq_true] at fT
  obtain ⟨⟨f1, f2⟩, -⟩ := fT
  have f1' : (sF1 A T).isNone = true := f1
  have f2' : (sF2 A T).isNone = true := f2
  unfold lvP
  cases hc : sCpl A (aPe A b) with
  | none =>
    simp only [Option.isNone_none, if_true]
    have h1 := sF1_iff.mp f1' _ hpe hc
    unfold sRnk at h1
    rw [hbn] at h1
    cases hz : sPlc A b with
    | none => exact absurd hz h1
    | some k => rfl
  | some c =>
    simp only [Option.isNone_some, Bool.false_eq_true, if_false]
    have hcn := sCpl_lt hc
    have h2 := fst1_all.mp f2' c hcn
    have hne : sRkc A T c ≠ none := fun q => by rw [q] at h2; cases h2
    have hcp := (sCpl_iff w hcn).mp hc
    have hnn : ¬ (sBnd A T (aC1 A c) = none ∧ sBnd A T (aC2 A c) = none) := by
      rintro ⟨q1, q2⟩
      rcases hcp with z | z
      · rw [z, hbn] at q1; cases q1
      · rw [z, hbn] at q2; cases q2
    unfold sRkc at hne
    rw [if_neg hnn] at hne
    obtain ⟨k, hk⟩ := Option.ne_none_iff_exists'.mp hne
    have hkl := fst1_lt hk
    have hkp := (fst1_some hk).2.1
    have hq : (aPl A c).getD k (none, none) = (sBnd A T (aC1 A c), sBnd A T (aC2 A c)) := by simpa using hkp
    refine (ofPr_bit A b).mpr ⟨c, hcn, _, getD_mem' (d := (none, none)) hkl, ?_⟩
    rw [hq]
    unfold prM
    rw [Nat.testBit_or, Bool.or_eq_true]
    rcases hcp with z | z
    · left
      rw [z, hbn]
      simp [oM]
    · right
      rw [z, hbn]
      simp [oM]
theorem wk_free {A : AS} (w : WF A) {mv : Nat → Nat} {T : Nat} (hT : T < 2 ^ aNb A) (mT : sMat A T) (fT : sFree (aMv A mv) T = true) : T ∈ wk A mv (lvL A (aNb A)) 0 := by
  have hbt : ∀ b, T.testBit b = true → b < aNb A := fun b hb => by
    apply Classical.byContradiction
    intro z
    rw [Nat.testBit_lt_two_pow (Nat.lt_of_lt_of_le hT (Nat.pow_le_pow_right (by decide) (by omega)))] at hb
    cases hb
  refine wk_all w hT mT (fun o => ?_) _ 0 (lvL_desc A _) (fun b hb => ((lvL_mem _ _).mp hb).1) (fun b hb => by simp at hb) (fun b _ => by simp) fun b hb => Or.inr ((lvL_mem _ _).mpr ⟨hbt b hb, lvL_free w mT fT (hbt b hb) hb⟩)
  by_cases ho : o < aNo A
  · unfold sFree at fT
    rw [Bool.and_eq_true] at fT
    have h3 := fst1_all.mp fT.2 o ho
    rw [sTk_off (WF_mv w mv)] at h3
    have h3' : sTk (aMv A mv) o T = T &&& sOff A o := by
      have : sOff (aMv A mv) o = sOff A o := rfl
      rw [this] at h3
      simpa using h3
    rw [← tPm_set w mv, ← pSet_prt w] at h3'
    have hlt := prt_slM_lt w o T
    have hts := tP_spec w (l := mv o) hlt
    have := congrArg (fun X => prt o (slM A X)) h3'
    simp only [prt_pSet w hts.1, prt_pSet w hlt] at this
    exact (tP_self w hlt).mp this
  · have h0 : nOf A o = 0 := by
      unfold nOf
      exact (cnt_none _ _).mp (fst1_all.mpr fun b hb => by
        have := (w.2.2.1.2.1 b hb).2.1
        simp
        omega)
    have hlt := prt_slM_lt w o T
    rw [h0] at hlt
    have : prt o (slM A T) = 0 := by omega
    rw [this]
    exact kOk_0 A o _
theorem wk_lt {A : AS} {mv : Nat → Nat} {T : Nat} (h : T ∈ wk A mv (lvL A (aNb A)) 0) : T < 2 ^ aNb A := lt_of_bits fun b hb => by
  rcases (wk_sub _ _ _ h).2 b hb with q | q
  · simp at q
  · exact ((lvL_mem _ _).mp q).1
theorem wk_asc (A : AS) (mv : Nat → Nat) : (wk A mv (lvL A (aNb A)) 0).Pairwise (· < ·) := wk_srt _ _ (lvL_desc A _) fun b _ c _ => by simp
/-- what stands, in the walk's order, is ALL -/
theorem wk_std {A : AS} (w : WF A) (mv : Nat → Nat) : (wk A mv (lvL A (aNb A)) 0).filter (sStd (aMv A mv)) = sAllR (aMv A mv) := by
  have wB := WF_mv w mv
  refine asc_ext ((wk_asc A mv).filter _) (sAllR_srt wB) fun S => ?_
  rw [List.mem_filter, sAllR_mem wB]
  constructor
  · rintro ⟨h1, h2⟩; exact ⟨wk_lt (A := A) h1, h2⟩
  · rintro ⟨h1, h2⟩
    obtain ⟨m1, m2⟩ := std_ok wB h1 h2
    exact ⟨wk_free w h1 m1 m2, h2⟩
